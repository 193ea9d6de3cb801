theorem dX12_promise_63 : decode cX12_promise 63 = .ok (.invokevirtual 72, 3) := by decide +kernel
theorem dX12_promise_66 : decode cX12_promise 66 = .ok (.sipush 3620, 3) := by decide +kernel
theorem dX12_promise_69 : decode cX12_promise 69 = .ok (.iconst 5, 1) := by decide +kernel
theorem dX12_promise_70 : decode cX12_promise 70 = .ok (.aload_n 0, 1) := by decide +kernel
theorem dX12_promise_71 : decode cX12_promise 71 = .ok (.getfield 3, 3) := by decide +kernel
theorem dX12_promise_74 : decode cX12_promise 74 = .ok (.sipush 3571, 3) := by decide +kernel
theorem dX12_promise_77 : decode cX12_promise 77 = .ok (.iaload, 1) := by decide +kernel
theorem dX12_promise_78 : decode cX12_promise 78 = .ok (.imul, 1) := by decide +kernel
theorem dX12_promise_79 : decode cX12_promise 79 = .ok (.iadd, 1) := by decide +kernel
theorem dX12_promise_80 : decode cX12_promise 80 = .ok (.istore 5, 2) := by decide +kernel
theorem dX12_promise_82 : decode cX12_promise 82 = .ok (.aload_n 0, 1) := by decide +kernel
theorem dX12_promise_83 : decode cX12_promise 83 = .ok (.getfield 3, 3) := by decide +kernel
theorem dX12_promise_86 : decode cX12_promise 86 = .ok (.iload 5, 2) := by decide +kernel
theorem dX12_promise_88 : decode cX12_promise 88 = .ok (.iload_n 1, 1) := by decide +kernel
theorem dX12_promise_89 : decode cX12_promise 89 = .ok (.iastore, 1) := by decide +kernel
theorem dX12_promise_90 : decode cX12_promise 90 = .ok (.aload_n 0, 1) := by decide +kernel
theorem dX12_promise_91 : decode cX12_promise 91 = .ok (.getfield 3, 3) := by decide +kernel
theorem dX12_promise_94 : decode cX12_promise 94 = .ok (.iload 5, 2) := by decide +kernel
theorem dX12_promise_96 : decode cX12_promise 96 = .ok (.iconst 1, 1) := by decide +kernel
theorem dX12_promise_97 : decode cX12_promise 97 = .ok (.iadd, 1) := by decide +kernel
theorem dX12_promise_98 : decode cX12_promise 98 = .ok (.iload_n 2, 1) := by decide +kernel
theorem dX12_promise_99 : decode cX12_promise 99 = .ok (.iastore, 1) := by decide +kernel
theorem dX12_promise_100 : decode cX12_promise 100 = .ok (.aload_n 0, 1) := by decide +kernel
theorem dX12_promise_101 : decode cX12_promise 101 = .ok (.getfield 3, 3) := by decide +kernel
theorem dX12_promise_104 : decode cX12_promise 104 = .ok (.iload 5, 2) := by decide +kernel
theorem dX12_promise_106 : decode cX12_promise 106 = .ok (.iconst 2, 1) := by decide +kernel
theorem dX12_promise_107 : decode cX12_promise 107 = .ok (.iadd, 1) := by decide +kernel
theorem dX12_promise_108 : decode cX12_promise 108 = .ok (.iload_n 3, 1) := by decide +kernel
theorem dX12_promise_109 : decode cX12_promise 109 = .ok (.iastore, 1) := by decide +kernel
theorem dX12_promise_110 : decode cX12_promise 110 = .ok (.aload_n 0, 1) := by decide +kernel
theorem dX12_promise_111 : decode cX12_promise 111 = .ok (.getfield 3, 3) := by decide +kernel
theorem dX12_promise_114 : decode cX12_promise 114 = .ok (.iload 5, 2) := by decide +kernel
theorem dX12_promise_116 : decode cX12_promise 116 = .ok (.iconst 3, 1) := by decide +kernel
theorem dX12_promise_117 : decode cX12_promise 117 = .ok (.iadd, 1) := by decide +kernel
theorem dX12_promise_118 : decode cX12_promise 118 = .ok (.iload 4, 2) := by decide +kernel
theorem dX12_promise_120 : decode cX12_promise 120 = .ok (.ifCond .eq 7, 3) := by decide +kernel
theorem dX12_promise_123 : decode cX12_promise 123 = .ok (.iconst 1, 1) := by decide +kernel
theorem dX12_promise_124 : decode cX12_promise 124 = .ok (.goto 4, 3) := by decide +kernel
theorem dX12_promise_127 : decode cX12_promise 127 = .ok (.iconst 0, 1) := by decide +kernel
theorem dX12_promise_128 : decode cX12_promise 128 = .ok (.iastore, 1) := by decide +kernel
theorem dX12_promise_129 : decode cX12_promise 129 = .ok (.aload_n 0, 1) := by decide +kernel
theorem dX12_promise_130 : decode cX12_promise 130 = .ok (.getfield 3, 3) := by decide +kernel
theorem dX12_promise_133 : decode cX12_promise 133 = .ok (.iload 5, 2) := by decide +kernel
theorem dX12_promise_135 : decode cX12_promise 135 = .ok (.iconst 4, 1) := by decide +kernel
theorem dX12_promise_136 : decode cX12_promise 136 = .ok (.iadd, 1) := by decide +kernel
theorem dX12_promise_137 : decode cX12_promise 137 = .ok (.iconst 0, 1) := by decide +kernel
theorem dX12_promise_138 : decode cX12_promise 138 = .ok (.iastore, 1) := by decide +kernel
theorem dX12_promise_139 : decode cX12_promise 139 = .ok (.aload_n 0, 1) := by decide +kernel
theorem dX12_promise_140 : decode cX12_promise 140 = .ok (.getfield 3, 3) := by decide +kernel
theorem dX12_promise_143 : decode cX12_promise 143 = .ok (.sipush 3571, 3) := by decide +kernel
theorem dX12_promise_146 : decode cX12_promise 146 = .ok (.dup2, 1) := by decide +kernel
theorem dX12_promise_147 : decode cX12_promise 147 = .ok (.iaload, 1) := by decide +kernel
theorem dX12_promise_148 : decode cX12_promise 148 = .ok (.iconst 1, 1) := by decide +kernel
theorem dX12_promise_149 : decode cX12_promise 149 = .ok (.iadd, 1) := by decide +kernel
theorem dX12_promise_150 : decode cX12_promise 150 = .ok (.iastore, 1) := by decide +kernel
theorem dX12_promise_151 : decode cX12_promise 151 = .ok (.aload_n 0, 1) := by decide +kernel
theorem dX12_promise_152 : decode cX12_promise 152 = .ok (.getfield 3, 3) := by decide +kernel
theorem dX12_promise_155 : decode cX12_promise 155 = .ok (.sipush 3571, 3) := by decide +kernel
theorem dX12_promise_158 : decode cX12_promise 158 = .ok (.iaload, 1) := by decide +kernel
theorem dX12_promise_159 : decode cX12_promise 159 = .ok (.iconst 1, 1) := by decide +kernel
theorem dX12_promise_160 : decode cX12_promise 160 = .ok (.isub, 1) := by decide +kernel
theorem dX12_promise_161 : decode cX12_promise 161 = .ok (.ireturn, 1) := by decide +kernel
theorem dX12_isPromise_0 : decode cX12_isPromise 0 = .ok (.iload_n 1, 1) := by decide +kernel
theorem dX12_isPromise_1 : decode cX12_isPromise 1 = .ok (.i2l, 1) := by decide +kernel
theorem dX12_isPromise_2 : decode cX12_isPromise 2 = .ok (.lconst 0, 1) := by decide +kernel
theorem dX12_isPromise_3 : decode cX12_isPromise 3 = .ok (.aload_n 0, 1) := by decide +kernel
theorem dX12_isPromise_4 : decode cX12_isPromise 4 = .ok (.getfield 3, 3) := by decide +kernel
theorem dX12_isPromise_7 : decode cX12_isPromise 7 = .ok (.sipush 3571, 3) := by decide +kernel
theorem dX12_isPromise_10 : decode cX12_isPromise 10 = .ok (.iaload, 1) := by decide +kernel
theorem dX12_isPromise_11 : decode cX12_isPromise 11 = .ok (.iconst 1, 1) := by decide +kernel
theorem dX12_isPromise_12 : decode cX12_isPromise 12 = .ok (.isub, 1) := by decide +kernel
theorem dX12_isPromise_13 : decode cX12_isPromise 13 = .ok (.i2l, 1) := by decide +kernel
theorem dX12_isPromise_14 : decode cX12_isPromise 14 = .ok (.invokestatic 68, 3) := by decide +kernel
theorem dX12_isPromise_17 : decode cX12_isPromise 17 = .ok (.ireturn, 1) := by decide +kernel
theorem dX12_earn_0 : decode cX12_earn 0 = .ok (.sipush 3620, 3) := by decide +kernel
theorem dX12_earn_3 : decode cX12_earn 3 = .ok (.iconst 5, 1) := by decide +kernel
theorem dX12_earn_4 : decode cX12_earn 4 = .ok (.iload_n 1, 1) := by decide +kernel
theorem dX12_earn_5 : decode cX12_earn 5 = .ok (.imul, 1) := by decide +kernel
theorem dX12_earn_6 : decode cX12_earn 6 = .ok (.iadd, 1) := by decide +kernel
theorem dX12_earn_7 : decode cX12_earn 7 = .ok (.istore_n 2, 1) := by decide +kernel
theorem dX12_earn_8 : decode cX12_earn 8 = .ok (.aload_n 0, 1) := by decide +kernel
theorem dX12_earn_9 : decode cX12_earn 9 = .ok (.iload_n 1, 1) := by decide +kernel
theorem dX12_earn_10 : decode cX12_earn 10 = .ok (.invokevirtual 289, 3) := by decide +kernel
theorem dX12_earn_13 : decode cX12_earn 13 = .ok (.ifCond .eq 45, 3) := by decide +kernel
theorem dX12_earn_16 : decode cX12_earn 16 = .ok (.aload_n 0, 1) := by decide +kernel
theorem dX12_earn_17 : decode cX12_earn 17 = .ok (.getfield 3, 3) := by decide +kernel
theorem dX12_earn_20 : decode cX12_earn 20 = .ok (.iload_n 2, 1) := by decide +kernel
theorem dX12_earn_21 : decode cX12_earn 21 = .ok (.iconst 4, 1) := by decide +kernel
theorem dX12_earn_22 : decode cX12_earn 22 = .ok (.iadd, 1) := by decide +kernel
theorem dX12_earn_23 : decode cX12_earn 23 = .ok (.iaload, 1) := by decide +kernel
theorem dX12_earn_24 : decode cX12_earn 24 = .ok (.iconst 1, 1) := by decide +kernel
theorem dX12_earn_25 : decode cX12_earn 25 = .ok (.if_icmp .eq 33, 3) := by decide +kernel
theorem dX12_earn_28 : decode cX12_earn 28 = .ok (.aload_n 0, 1) := by decide +kernel
theorem dX12_earn_29 : decode cX12_earn 29 = .ok (.getfield 3, 3) := by decide +kernel
theorem dX12_earn_32 : decode cX12_earn 32 = .ok (.iload_n 2, 1) := by decide +kernel
theorem dX12_earn_33 : decode cX12_earn 33 = .ok (.iconst 1, 1) := by decide +kernel
theorem dX12_earn_34 : decode cX12_earn 34 = .ok (.iadd, 1) := by decide +kernel
theorem dX12_earn_35 : decode cX12_earn 35 = .ok (.iaload, 1) := by decide +kernel
theorem dX12_earn_36 : decode cX12_earn 36 = .ok (.aload_n 0, 1) := by decide +kernel
theorem dX12_earn_37 : decode cX12_earn 37 = .ok (.getfield 3, 3) := by decide +kernel
theorem dX12_earn_40 : decode cX12_earn 40 = .ok (.iconst 0, 1) := by decide +kernel
theorem dX12_earn_41 : decode cX12_earn 41 = .ok (.iaload, 1) := by decide +kernel
theorem dX12_earn_42 : decode cX12_earn 42 = .ok (.if_icmp .ne 16, 3) := by decide +kernel
theorem dX12_earn_45 : decode cX12_earn 45 = .ok (.aload_n 0, 1) := by decide +kernel
theorem dX12_earn_46 : decode cX12_earn 46 = .ok (.aload_n 0, 1) := by decide +kernel
theorem dX12_earn_47 : decode cX12_earn 47 = .ok (.getfield 3, 3) := by decide +kernel
theorem dX12_earn_50 : decode cX12_earn 50 = .ok (.iload_n 2, 1) := by decide +kernel
theorem dX12_earn_51 : decode cX12_earn 51 = .ok (.iaload, 1) := by decide +kernel
theorem dX12_earn_52 : decode cX12_earn 52 = .ok (.invokevirtual 209, 3) := by decide +kernel
theorem dX12_earn_55 : decode cX12_earn 55 = .ok (.ifCond .ne 5, 3) := by decide +kernel
theorem dX12_earn_58 : decode cX12_earn 58 = .ok (.iconst (-1), 1) := by decide +kernel
theorem dX12_earn_59 : decode cX12_earn 59 = .ok (.ireturn, 1) := by decide +kernel
theorem dX12_earn_60 : decode cX12_earn 60 = .ok (.aload_n 0, 1) := by decide +kernel
theorem dX12_earn_61 : decode cX12_earn 61 = .ok (.iconst 0, 1) := by decide +kernel
theorem dX12_earn_62 : decode cX12_earn 62 = .ok (.invokevirtual 72, 3) := by decide +kernel
theorem dX12_earn_65 : decode cX12_earn 65 = .ok (.aload_n 0, 1) := by decide +kernel
theorem dX12_earn_66 : decode cX12_earn 66 = .ok (.getfield 3, 3) := by decide +kernel
theorem dX12_earn_69 : decode cX12_earn 69 = .ok (.iload_n 2, 1) := by decide +kernel
theorem dX12_earn_70 : decode cX12_earn 70 = .ok (.iconst 4, 1) := by decide +kernel
theorem dX12_earn_71 : decode cX12_earn 71 = .ok (.iadd, 1) := by decide +kernel
theorem dX12_earn_72 : decode cX12_earn 72 = .ok (.iconst 1, 1) := by decide +kernel
theorem dX12_earn_73 : decode cX12_earn 73 = .ok (.iastore, 1) := by decide +kernel
theorem dX12_earn_74 : decode cX12_earn 74 = .ok (.aload_n 0, 1) := by decide +kernel
theorem dX12_earn_75 : decode cX12_earn 75 = .ok (.getfield 3, 3) := by decide +kernel
theorem dX12_earn_78 : decode cX12_earn 78 = .ok (.iload_n 2, 1) := by decide +kernel
theorem dX12_earn_79 : decode cX12_earn 79 = .ok (.iconst 2, 1) := by decide +kernel
theorem dX12_earn_80 : decode cX12_earn 80 = .ok (.iadd, 1) := by decide +kernel
theorem dX12_earn_81 : decode cX12_earn 81 = .ok (.iaload, 1) := by decide +kernel
theorem dX12_earn_82 : decode cX12_earn 82 = .ok (.ireturn, 1) := by decide +kernel
theorem dX12_promised_0 : decode cX12_promised 0 = .ok (.aload_n 0, 1) := by decide +kernel
theorem dX12_promised_1 : decode cX12_promised 1 = .ok (.iload_n 1, 1) := by decide +kernel
theorem dX12_promised_2 : decode cX12_promised 2 = .ok (.invokevirtual 289, 3) := by decide +kernel
theorem dX12_promised_5 : decode cX12_promised 5 = .ok (.ifCond .eq 32, 3) := by decide +kernel
theorem dX12_promised_8 : decode cX12_promised 8 = .ok (.iload_n 2, 1) := by decide +kernel
theorem dX12_promised_9 : decode cX12_promised 9 = .ok (.i2l, 1) := by decide +kernel
theorem dX12_promised_10 : decode cX12_promised 10 = .ok (.lconst 0, 1) := by decide +kernel
theorem dX12_promised_11 : decode cX12_promised 11 = .ok (.ldc2_w 292, 3) := by decide +kernel
theorem dX12_promised_14 : decode cX12_promised 14 = .ok (.invokestatic 68, 3) := by decide +kernel
theorem dX12_promised_17 : decode cX12_promised 17 = .ok (.ifCond .eq 20, 3) := by decide +kernel
theorem dX12_promised_20 : decode cX12_promised 20 = .ok (.aload_n 0, 1) := by decide +kernel
theorem dX12_promised_21 : decode cX12_promised 21 = .ok (.getfield 3, 3) := by decide +kernel
theorem dX12_promised_24 : decode cX12_promised 24 = .ok (.sipush 3620, 3) := by decide +kernel
theorem dX12_promised_27 : decode cX12_promised 27 = .ok (.iconst 5, 1) := by decide +kernel
theorem dX12_promised_28 : decode cX12_promised 28 = .ok (.iload_n 1, 1) := by decide +kernel
theorem dX12_promised_29 : decode cX12_promised 29 = .ok (.imul, 1) := by decide +kernel
theorem dX12_promised_30 : decode cX12_promised 30 = .ok (.iadd, 1) := by decide +kernel
theorem dX12_promised_31 : decode cX12_promised 31 = .ok (.iload_n 2, 1) := by decide +kernel
theorem dX12_promised_32 : decode cX12_promised 32 = .ok (.iadd, 1) := by decide +kernel
theorem dX12_promised_33 : decode cX12_promised 33 = .ok (.iaload, 1) := by decide +kernel
theorem dX12_promised_34 : decode cX12_promised 34 = .ok (.goto 4, 3) := by decide +kernel
theorem dX12_promised_37 : decode cX12_promised 37 = .ok (.iconst (-1), 1) := by decide +kernel
theorem dX12_promised_38 : decode cX12_promised 38 = .ok (.ireturn, 1) := by decide +kernel
theorem dX12_isOffer_0 : decode cX12_isOffer 0 = .ok (.iload_n 1, 1) := by decide +kernel
theorem dX12_isOffer_1 : decode cX12_isOffer 1 = .ok (.i2l, 1) := by decide +kernel
theorem dX12_isOffer_2 : decode cX12_isOffer 2 = .ok (.lconst 0, 1) := by decide +kernel
theorem dX12_isOffer_3 : decode cX12_isOffer 3 = .ok (.aload_n 0, 1) := by decide +kernel
theorem dX12_isOffer_4 : decode cX12_isOffer 4 = .ok (.getfield 3, 3) := by decide +kernel
theorem dX12_isOffer_7 : decode cX12_isOffer 7 = .ok (.sipush 3570, 3) := by decide +kernel
theorem dX12_isOffer_10 : decode cX12_isOffer 10 = .ok (.iaload, 1) := by decide +kernel
theorem dX12_isOffer_11 : decode cX12_isOffer 11 = .ok (.iconst 1, 1) := by decide +kernel
theorem dX12_isOffer_12 : decode cX12_isOffer 12 = .ok (.isub, 1) := by decide +kernel
theorem dX12_isOffer_13 : decode cX12_isOffer 13 = .ok (.i2l, 1) := by decide +kernel
theorem dX12_isOffer_14 : decode cX12_isOffer 14 = .ok (.invokestatic 68, 3) := by decide +kernel
theorem dX12_isOffer_17 : decode cX12_isOffer 17 = .ok (.ireturn, 1) := by decide +kernel
theorem dX12_hitOfOffer_0 : decode cX12_hitOfOffer 0 = .ok (.sipush 3572, 3) := by decide +kernel
theorem dX12_hitOfOffer_3 : decode cX12_hitOfOffer 3 = .ok (.iconst 4, 1) := by decide +kernel
theorem dX12_hitOfOffer_4 : decode cX12_hitOfOffer 4 = .ok (.iload_n 1, 1) := by decide +kernel
theorem dX12_hitOfOffer_5 : decode cX12_hitOfOffer 5 = .ok (.imul, 1) := by decide +kernel
theorem dX12_hitOfOffer_6 : decode cX12_hitOfOffer 6 = .ok (.iadd, 1) := by decide +kernel
theorem dX12_hitOfOffer_7 : decode cX12_hitOfOffer 7 = .ok (.istore_n 2, 1) := by decide +kernel
theorem dX12_hitOfOffer_8 : decode cX12_hitOfOffer 8 = .ok (.aload_n 0, 1) := by decide +kernel
theorem dX12_hitOfOffer_9 : decode cX12_hitOfOffer 9 = .ok (.getfield 3, 3) := by decide +kernel
theorem dX12_hitOfOffer_12 : decode cX12_hitOfOffer 12 = .ok (.iload_n 2, 1) := by decide +kernel
theorem dX12_hitOfOffer_13 : decode cX12_hitOfOffer 13 = .ok (.iconst 2, 1) := by decide +kernel
theorem dX12_hitOfOffer_14 : decode cX12_hitOfOffer 14 = .ok (.iadd, 1) := by decide +kernel
theorem dX12_hitOfOffer_15 : decode cX12_hitOfOffer 15 = .ok (.iaload, 1) := by decide +kernel
theorem dX12_hitOfOffer_16 : decode cX12_hitOfOffer 16 = .ok (.iconst 5, 1) := by decide +kernel
theorem dX12_hitOfOffer_17 : decode cX12_hitOfOffer 17 = .ok (.aload_n 0, 1) := by decide +kernel
theorem dX12_hitOfOffer_18 : decode cX12_hitOfOffer 18 = .ok (.getfield 3, 3) := by decide +kernel
theorem dX12_hitOfOffer_21 : decode cX12_hitOfOffer 21 = .ok (.iload_n 2, 1) := by decide +kernel
theorem dX12_hitOfOffer_22 : decode cX12_hitOfOffer 22 = .ok (.iconst 1, 1) := by decide +kernel
theorem dX12_hitOfOffer_23 : decode cX12_hitOfOffer 23 = .ok (.iadd, 1) := by decide +kernel
theorem dX12_hitOfOffer_24 : decode cX12_hitOfOffer 24 = .ok (.iaload, 1) := by decide +kernel
theorem dX12_hitOfOffer_25 : decode cX12_hitOfOffer 25 = .ok (.invokestatic 122, 3) := by decide +kernel
theorem dX12_hitOfOffer_28 : decode cX12_hitOfOffer 28 = .ok (.iconst 0, 1) := by decide +kernel
theorem dX12_hitOfOffer_29 : decode cX12_hitOfOffer 29 = .ok (.invokestatic 128, 3) := by decide +kernel
theorem dX12_hitOfOffer_32 : decode cX12_hitOfOffer 32 = .ok (.aload_n 0, 1) := by decide +kernel
theorem dX12_hitOfOffer_33 : decode cX12_hitOfOffer 33 = .ok (.getfield 3, 3) := by decide +kernel
theorem dX12_hitOfOffer_36 : decode cX12_hitOfOffer 36 = .ok (.iload_n 2, 1) := by decide +kernel
theorem dX12_hitOfOffer_37 : decode cX12_hitOfOffer 37 = .ok (.iconst 3, 1) := by decide +kernel
theorem dX12_hitOfOffer_38 : decode cX12_hitOfOffer 38 = .ok (.iadd, 1) := by decide +kernel
theorem dX12_hitOfOffer_39 : decode cX12_hitOfOffer 39 = .ok (.iaload, 1) := by decide +kernel
theorem dX12_hitOfOffer_40 : decode cX12_hitOfOffer 40 = .ok (.iadd, 1) := by decide +kernel
theorem dX12_hitOfOffer_41 : decode cX12_hitOfOffer 41 = .ok (.ireturn, 1) := by decide +kernel
theorem dX12_offer_0 : decode cX12_offer 0 = .ok (.aload_n 0, 1) := by decide +kernel
theorem dX12_offer_1 : decode cX12_offer 1 = .ok (.iload_n 1, 1) := by decide +kernel
theorem dX12_offer_2 : decode cX12_offer 2 = .ok (.invokevirtual 294, 3) := by decide +kernel
theorem dX12_offer_5 : decode cX12_offer 5 = .ok (.ifCond .eq 15, 3) := by decide +kernel
theorem dX12_offer_8 : decode cX12_offer 8 = .ok (.iload_n 2, 1) := by decide +kernel
theorem dX12_offer_9 : decode cX12_offer 9 = .ok (.i2l, 1) := by decide +kernel
theorem dX12_offer_10 : decode cX12_offer 10 = .ok (.lconst 0, 1) := by decide +kernel
theorem dX12_offer_11 : decode cX12_offer 11 = .ok (.ldc2_w 292, 3) := by decide +kernel
theorem dX12_offer_14 : decode cX12_offer 14 = .ok (.invokestatic 68, 3) := by decide +kernel
theorem dX12_offer_17 : decode cX12_offer 17 = .ok (.ifCond .ne 7, 3) := by decide +kernel
theorem dX12_offer_20 : decode cX12_offer 20 = .ok (.iconst (-1), 1) := by decide +kernel
theorem dX12_offer_21 : decode cX12_offer 21 = .ok (.goto 30, 3) := by decide +kernel
theorem dX12_offer_24 : decode cX12_offer 24 = .ok (.iload_n 2, 1) := by decide +kernel
theorem dX12_offer_25 : decode cX12_offer 25 = .ok (.iconst 4, 1) := by decide +kernel
theorem dX12_offer_26 : decode cX12_offer 26 = .ok (.if_icmp .ne 11, 3) := by decide +kernel
theorem dX12_offer_29 : decode cX12_offer 29 = .ok (.aload_n 0, 1) := by decide +kernel
theorem dX12_offer_30 : decode cX12_offer 30 = .ok (.iload_n 1, 1) := by decide +kernel
theorem dX12_offer_31 : decode cX12_offer 31 = .ok (.invokevirtual 297, 3) := by decide +kernel
theorem dX12_offer_34 : decode cX12_offer 34 = .ok (.goto 17, 3) := by decide +kernel
theorem dX12_offer_37 : decode cX12_offer 37 = .ok (.aload_n 0, 1) := by decide +kernel
theorem dX12_offer_38 : decode cX12_offer 38 = .ok (.getfield 3, 3) := by decide +kernel
theorem dX12_offer_41 : decode cX12_offer 41 = .ok (.sipush 3572, 3) := by decide +kernel
theorem dX12_offer_44 : decode cX12_offer 44 = .ok (.iconst 4, 1) := by decide +kernel
theorem dX12_offer_45 : decode cX12_offer 45 = .ok (.iload_n 1, 1) := by decide +kernel
theorem dX12_offer_46 : decode cX12_offer 46 = .ok (.imul, 1) := by decide +kernel
theorem dX12_offer_47 : decode cX12_offer 47 = .ok (.iadd, 1) := by decide +kernel
theorem dX12_offer_48 : decode cX12_offer 48 = .ok (.iload_n 2, 1) := by decide +kernel
theorem dX12_offer_49 : decode cX12_offer 49 = .ok (.iadd, 1) := by decide +kernel
theorem dX12_offer_50 : decode cX12_offer 50 = .ok (.iaload, 1) := by decide +kernel
theorem dX12_offer_51 : decode cX12_offer 51 = .ok (.ireturn, 1) := by decide +kernel
theorem dX12_buys_0 : decode cX12_buys 0 = .ok (.iload_n 1, 1) := by decide +kernel
theorem dX12_buys_1 : decode cX12_buys 1 = .ok (.i2l, 1) := by decide +kernel
theorem dX12_buys_2 : decode cX12_buys 2 = .ok (.lconst 0, 1) := by decide +kernel
theorem dX12_buys_3 : decode cX12_buys 3 = .ok (.ldc2_w 300, 3) := by decide +kernel
theorem dX12_buys_6 : decode cX12_buys 6 = .ok (.invokestatic 68, 3) := by decide +kernel
theorem dX12_buys_9 : decode cX12_buys 9 = .ok (.ifCond .ne 5, 3) := by decide +kernel
theorem dX12_buys_12 : decode cX12_buys 12 = .ok (.iconst (-1), 1) := by decide +kernel
theorem dX12_buys_13 : decode cX12_buys 13 = .ok (.ireturn, 1) := by decide +kernel
theorem dX12_buys_14 : decode cX12_buys 14 = .ok (.iconst 0, 1) := by decide +kernel
theorem dX12_buys_15 : decode cX12_buys 15 = .ok (.aload_n 0, 1) := by decide +kernel
theorem dX12_buys_16 : decode cX12_buys 16 = .ok (.lconst 0, 1) := by decide +kernel
theorem dX12_buys_17 : decode cX12_buys 17 = .ok (.lconst 0, 1) := by decide +kernel
theorem dX12_buys_18 : decode cX12_buys 18 = .ok (.invokevirtual 246, 3) := by decide +kernel
theorem dX12_buys_21 : decode cX12_buys 21 = .ok (.invokestatic 224, 3) := by decide +kernel
theorem dX12_buys_24 : decode cX12_buys 24 = .ok (.istore_n 2, 1) := by decide +kernel
theorem dX12_buys_25 : decode cX12_buys 25 = .ok (.iconst 0, 1) := by decide +kernel
theorem dX12_buys_26 : decode cX12_buys 26 = .ok (.istore_n 3, 1) := by decide +kernel
theorem dX12_buys_27 : decode cX12_buys 27 = .ok (.iconst 0, 1) := by decide +kernel
theorem dX12_buys_28 : decode cX12_buys 28 = .ok (.istore 4, 2) := by decide +kernel
theorem dX12_buys_30 : decode cX12_buys 30 = .ok (.iconst 0, 1) := by decide +kernel
theorem dX12_buys_31 : decode cX12_buys 31 = .ok (.istore 5, 2) := by decide +kernel
theorem dX12_buys_33 : decode cX12_buys 33 = .ok (.iconst 1, 1) := by decide +kernel
theorem dX12_buys_34 : decode cX12_buys 34 = .ok (.istore 6, 2) := by decide +kernel
theorem dX12_buys_36 : decode cX12_buys 36 = .ok (.iload 6, 2) := by decide +kernel
theorem dX12_buys_38 : decode cX12_buys 38 = .ok (.iconst 1, 1) := by decide +kernel
theorem dX12_buys_39 : decode cX12_buys 39 = .ok (.bipush 10, 2) := by decide +kernel
theorem dX12_buys_41 : decode cX12_buys 41 = .ok (.aload_n 0, 1) := by decide +kernel
theorem dX12_buys_42 : decode cX12_buys 42 = .ok (.getfield 3, 3) := by decide +kernel
theorem dX12_buys_45 : decode cX12_buys 45 = .ok (.sipush 3570, 3) := by decide +kernel
theorem dX12_buys_48 : decode cX12_buys 48 = .ok (.iaload, 1) := by decide +kernel
theorem dX12_buys_49 : decode cX12_buys 49 = .ok (.invokestatic 122, 3) := by decide +kernel
theorem dX12_buys_52 : decode cX12_buys 52 = .ok (.ishl, 1) := by decide +kernel
theorem dX12_buys_53 : decode cX12_buys 53 = .ok (.if_icmp .ge 119, 3) := by decide +kernel
theorem dX12_buys_56 : decode cX12_buys 56 = .ok (.iconst 0, 1) := by decide +kernel
theorem dX12_buys_57 : decode cX12_buys 57 = .ok (.istore 7, 2) := by decide +kernel
theorem dX12_buys_59 : decode cX12_buys 59 = .ok (.iconst 0, 1) := by decide +kernel
theorem dX12_buys_60 : decode cX12_buys 60 = .ok (.istore 8, 2) := by decide +kernel
theorem dX12_buys_62 : decode cX12_buys 62 = .ok (.iconst 0, 1) := by decide +kernel
theorem dX12_buys_63 : decode cX12_buys 63 = .ok (.istore 9, 2) := by decide +kernel
theorem dX12_buys_65 : decode cX12_buys 65 = .ok (.iload 9, 2) := by decide +kernel
theorem dX12_buys_67 : decode cX12_buys 67 = .ok (.bipush 10, 2) := by decide +kernel
theorem dX12_buys_69 : decode cX12_buys 69 = .ok (.if_icmp .ge 51, 3) := by decide +kernel
theorem dX12_buys_72 : decode cX12_buys 72 = .ok (.iload 6, 2) := by decide +kernel
theorem dX12_buys_74 : decode cX12_buys 74 = .ok (.iload 9, 2) := by decide +kernel
theorem dX12_buys_76 : decode cX12_buys 76 = .ok (.ishr, 1) := by decide +kernel
theorem dX12_buys_77 : decode cX12_buys 77 = .ok (.iconst 1, 1) := by decide +kernel
theorem dX12_buys_78 : decode cX12_buys 78 = .ok (.iand, 1) := by decide +kernel
theorem dX12_buys_79 : decode cX12_buys 79 = .ok (.ifCond .ne 6, 3) := by decide +kernel
theorem dX12_buys_82 : decode cX12_buys 82 = .ok (.goto 32, 3) := by decide +kernel
theorem dX12_buys_85 : decode cX12_buys 85 = .ok (.iload 7, 2) := by decide +kernel
theorem dX12_buys_87 : decode cX12_buys 87 = .ok (.aload_n 0, 1) := by decide +kernel
theorem dX12_buys_88 : decode cX12_buys 88 = .ok (.getfield 3, 3) := by decide +kernel
theorem dX12_buys_91 : decode cX12_buys 91 = .ok (.sipush 3572, 3) := by decide +kernel
theorem dX12_buys_94 : decode cX12_buys 94 = .ok (.iconst 4, 1) := by decide +kernel
theorem dX12_buys_95 : decode cX12_buys 95 = .ok (.iload 9, 2) := by decide +kernel
theorem dX12_buys_97 : decode cX12_buys 97 = .ok (.imul, 1) := by decide +kernel
theorem dX12_buys_98 : decode cX12_buys 98 = .ok (.iadd, 1) := by decide +kernel
theorem dX12_buys_99 : decode cX12_buys 99 = .ok (.iaload, 1) := by decide +kernel
theorem dX12_buys_100 : decode cX12_buys 100 = .ok (.iadd, 1) := by decide +kernel
theorem dX12_buys_101 : decode cX12_buys 101 = .ok (.istore 7, 2) := by decide +kernel
theorem dX12_buys_103 : decode cX12_buys 103 = .ok (.iload 8, 2) := by decide +kernel
theorem dX12_buys_105 : decode cX12_buys 105 = .ok (.aload_n 0, 1) := by decide +kernel
theorem dX12_buys_106 : decode cX12_buys 106 = .ok (.iload 9, 2) := by decide +kernel
theorem dX12_buys_108 : decode cX12_buys 108 = .ok (.invokevirtual 297, 3) := by decide +kernel
theorem dX12_buys_111 : decode cX12_buys 111 = .ok (.iadd, 1) := by decide +kernel
theorem dX12_buys_112 : decode cX12_buys 112 = .ok (.istore 8, 2) := by decide +kernel
theorem dX12_buys_114 : decode cX12_buys 114 = .ok (.iinc 9 1, 3) := by decide +kernel
theorem dX12_buys_117 : decode cX12_buys 117 = .ok (.goto (-52), 3) := by decide +kernel
theorem dX12_buys_120 : decode cX12_buys 120 = .ok (.iload 8, 2) := by decide +kernel
theorem dX12_buys_122 : decode cX12_buys 122 = .ok (.iload_n 2, 1) := by decide +kernel
theorem dX12_buys_123 : decode cX12_buys 123 = .ok (.if_icmp .gt 43, 3) := by decide +kernel
theorem dX12_buys_126 : decode cX12_buys 126 = .ok (.iload 7, 2) := by decide +kernel
theorem dX12_buys_128 : decode cX12_buys 128 = .ok (.iload 4, 2) := by decide +kernel
theorem dX12_buys_130 : decode cX12_buys 130 = .ok (.if_icmp .lt 36, 3) := by decide +kernel
theorem dX12_buys_133 : decode cX12_buys 133 = .ok (.iload 7, 2) := by decide +kernel
theorem dX12_buys_135 : decode cX12_buys 135 = .ok (.iload 4, 2) := by decide +kernel
theorem dX12_buys_137 : decode cX12_buys 137 = .ok (.if_icmp .ne 18, 3) := by decide +kernel
theorem dX12_buys_140 : decode cX12_buys 140 = .ok (.iload 6, 2) := by decide +kernel
theorem dX12_buys_142 : decode cX12_buys 142 = .ok (.invokestatic 302, 3) := by decide +kernel
theorem dX12_buys_145 : decode cX12_buys 145 = .ok (.iload_n 3, 1) := by decide +kernel
theorem dX12_buys_146 : decode cX12_buys 146 = .ok (.invokestatic 302, 3) := by decide +kernel
theorem dX12_buys_149 : decode cX12_buys 149 = .ok (.if_icmp .lt 6, 3) := by decide +kernel
theorem dX12_buys_152 : decode cX12_buys 152 = .ok (.goto 14, 3) := by decide +kernel
theorem dX12_buys_155 : decode cX12_buys 155 = .ok (.iload 6, 2) := by decide +kernel
theorem dX12_buys_157 : decode cX12_buys 157 = .ok (.istore_n 3, 1) := by decide +kernel
theorem dX12_buys_158 : decode cX12_buys 158 = .ok (.iload 7, 2) := by decide +kernel
theorem dX12_buys_160 : decode cX12_buys 160 = .ok (.istore 4, 2) := by decide +kernel
theorem dX12_buys_162 : decode cX12_buys 162 = .ok (.iload 8, 2) := by decide +kernel
theorem dX12_buys_164 : decode cX12_buys 164 = .ok (.istore 5, 2) := by decide +kernel
theorem dX12_buys_166 : decode cX12_buys 166 = .ok (.iinc 6 1, 3) := by decide +kernel
theorem dX12_buys_169 : decode cX12_buys 169 = .ok (.goto (-133), 3) := by decide +kernel
theorem dX12_buys_172 : decode cX12_buys 172 = .ok (.iload_n 1, 1) := by decide +kernel
theorem dX12_buys_173 : decode cX12_buys 173 = .ok (.ifCond .ne 8, 3) := by decide +kernel
theorem dX12_buys_176 : decode cX12_buys 176 = .ok (.iload 4, 2) := by decide +kernel
theorem dX12_buys_178 : decode cX12_buys 178 = .ok (.goto 14, 3) := by decide +kernel
theorem dX12_buys_181 : decode cX12_buys 181 = .ok (.iload_n 1, 1) := by decide +kernel
theorem dX12_buys_182 : decode cX12_buys 182 = .ok (.iconst 1, 1) := by decide +kernel
theorem dX12_buys_183 : decode cX12_buys 183 = .ok (.if_icmp .ne 7, 3) := by decide +kernel
theorem dX12_buys_186 : decode cX12_buys 186 = .ok (.iload_n 3, 1) := by decide +kernel
theorem dX12_buys_187 : decode cX12_buys 187 = .ok (.goto 5, 3) := by decide +kernel
theorem dX12_buys_190 : decode cX12_buys 190 = .ok (.iload 5, 2) := by decide +kernel
theorem dX12_buys_192 : decode cX12_buys 192 = .ok (.ireturn, 1) := by decide +kernel
theorem dX12_whyNotSign_0 : decode cX12_whyNotSign 0 = .ok (.aload_n 0, 1) := by decide +kernel
theorem dX12_whyNotSign_1 : decode cX12_whyNotSign 1 = .ok (.iload_n 1, 1) := by decide +kernel
theorem dX12_whyNotSign_2 : decode cX12_whyNotSign 2 = .ok (.invokevirtual 294, 3) := by decide +kernel
theorem dX12_whyNotSign_5 : decode cX12_whyNotSign 5 = .ok (.ifCond .ne 7, 3) := by decide +kernel
theorem dX12_whyNotSign_8 : decode cX12_whyNotSign 8 = .ok (.iconst 1, 1) := by decide +kernel
theorem dX12_whyNotSign_9 : decode cX12_whyNotSign 9 = .ok (.goto 47, 3) := by decide +kernel
theorem dX12_whyNotSign_12 : decode cX12_whyNotSign 12 = .ok (.aload_n 0, 1) := by decide +kernel
theorem dX12_whyNotSign_13 : decode cX12_whyNotSign 13 = .ok (.getfield 3, 3) := by decide +kernel
theorem dX12_whyNotSign_16 : decode cX12_whyNotSign 16 = .ok (.iconst 0, 1) := by decide +kernel
theorem dX12_whyNotSign_17 : decode cX12_whyNotSign 17 = .ok (.iaload, 1) := by decide +kernel
theorem dX12_whyNotSign_18 : decode cX12_whyNotSign 18 = .ok (.aload_n 0, 1) := by decide +kernel
theorem dX12_whyNotSign_19 : decode cX12_whyNotSign 19 = .ok (.getfield 3, 3) := by decide +kernel
theorem dX12_whyNotSign_22 : decode cX12_whyNotSign 22 = .ok (.sipush 3572, 3) := by decide +kernel
theorem dX12_whyNotSign_25 : decode cX12_whyNotSign 25 = .ok (.iconst 4, 1) := by decide +kernel
theorem dX12_whyNotSign_26 : decode cX12_whyNotSign 26 = .ok (.iload_n 1, 1) := by decide +kernel
theorem dX12_whyNotSign_27 : decode cX12_whyNotSign 27 = .ok (.imul, 1) := by decide +kernel
theorem dX12_whyNotSign_28 : decode cX12_whyNotSign 28 = .ok (.iadd, 1) := by decide +kernel
theorem dX12_whyNotSign_29 : decode cX12_whyNotSign 29 = .ok (.iconst 1, 1) := by decide +kernel
theorem dX12_whyNotSign_30 : decode cX12_whyNotSign 30 = .ok (.iadd, 1) := by decide +kernel
theorem dX12_whyNotSign_31 : decode cX12_whyNotSign 31 = .ok (.iaload, 1) := by decide +kernel
theorem dX12_whyNotSign_32 : decode cX12_whyNotSign 32 = .ok (.iadd, 1) := by decide +kernel
theorem dX12_whyNotSign_33 : decode cX12_whyNotSign 33 = .ok (.bipush 20, 2) := by decide +kernel
theorem dX12_whyNotSign_35 : decode cX12_whyNotSign 35 = .ok (.if_icmp .gt 15, 3) := by decide +kernel
theorem dX12_whyNotSign_38 : decode cX12_whyNotSign 38 = .ok (.aload_n 0, 1) := by decide +kernel
theorem dX12_whyNotSign_39 : decode cX12_whyNotSign 39 = .ok (.getfield 3, 3) := by decide +kernel
theorem dX12_whyNotSign_42 : decode cX12_whyNotSign 42 = .ok (.bipush 7, 2) := by decide +kernel
theorem dX12_whyNotSign_44 : decode cX12_whyNotSign 44 = .ok (.iaload, 1) := by decide +kernel
theorem dX12_whyNotSign_45 : decode cX12_whyNotSign 45 = .ok (.bipush 40, 2) := by decide +kernel
theorem dX12_whyNotSign_47 : decode cX12_whyNotSign 47 = .ok (.if_icmp .ne 8, 3) := by decide +kernel
theorem dX12_whyNotSign_50 : decode cX12_whyNotSign 50 = .ok (.bipush 6, 2) := by decide +kernel
theorem dX12_whyNotSign_52 : decode cX12_whyNotSign 52 = .ok (.goto 4, 3) := by decide +kernel
theorem dX12_whyNotSign_55 : decode cX12_whyNotSign 55 = .ok (.iconst 0, 1) := by decide +kernel
theorem dX12_whyNotSign_56 : decode cX12_whyNotSign 56 = .ok (.ireturn, 1) := by decide +kernel
theorem dX12_sign_0 : decode cX12_sign 0 = .ok (.aload_n 0, 1) := by decide +kernel
theorem dX12_sign_1 : decode cX12_sign 1 = .ok (.aload_n 0, 1) := by decide +kernel
theorem dX12_sign_2 : decode cX12_sign 2 = .ok (.iload_n 1, 1) := by decide +kernel
theorem dX12_sign_3 : decode cX12_sign 3 = .ok (.invokevirtual 305, 3) := by decide +kernel
theorem dX12_sign_6 : decode cX12_sign 6 = .ok (.invokevirtual 281, 3) := by decide +kernel
theorem dX12_sign_9 : decode cX12_sign 9 = .ok (.ifCond .eq 5, 3) := by decide +kernel
theorem dX12_sign_12 : decode cX12_sign 12 = .ok (.iconst (-1), 1) := by decide +kernel
theorem dX12_sign_13 : decode cX12_sign 13 = .ok (.ireturn, 1) := by decide +kernel
theorem dX12_sign_14 : decode cX12_sign 14 = .ok (.aload_n 0, 1) := by decide +kernel
theorem dX12_sign_15 : decode cX12_sign 15 = .ok (.iconst 0, 1) := by decide +kernel
theorem dX12_sign_16 : decode cX12_sign 16 = .ok (.invokevirtual 72, 3) := by decide +kernel
theorem dX12_sign_19 : decode cX12_sign 19 = .ok (.sipush 3572, 3) := by decide +kernel
theorem dX12_sign_22 : decode cX12_sign 22 = .ok (.iconst 4, 1) := by decide +kernel
theorem dX12_sign_23 : decode cX12_sign 23 = .ok (.iload_n 1, 1) := by decide +kernel
theorem dX12_sign_24 : decode cX12_sign 24 = .ok (.imul, 1) := by decide +kernel
theorem dX12_sign_25 : decode cX12_sign 25 = .ok (.iadd, 1) := by decide +kernel
theorem dX12_sign_26 : decode cX12_sign 26 = .ok (.istore_n 2, 1) := by decide +kernel
theorem dX12_sign_27 : decode cX12_sign 27 = .ok (.aload_n 0, 1) := by decide +kernel
theorem dX12_sign_28 : decode cX12_sign 28 = .ok (.getfield 3, 3) := by decide +kernel
theorem dX12_sign_31 : decode cX12_sign 31 = .ok (.bipush 7, 2) := by decide +kernel
theorem dX12_sign_33 : decode cX12_sign 33 = .ok (.iaload, 1) := by decide +kernel
theorem dX12_sign_34 : decode cX12_sign 34 = .ok (.istore_n 3, 1) := by decide +kernel
theorem dX12_sign_35 : decode cX12_sign 35 = .ok (.iconst 0, 1) := by decide +kernel
theorem dX12_sign_36 : decode cX12_sign 36 = .ok (.istore 4, 2) := by decide +kernel
theorem dX12_sign_38 : decode cX12_sign 38 = .ok (.iload 4, 2) := by decide +kernel
theorem dX12_sign_40 : decode cX12_sign 40 = .ok (.bipush 86, 2) := by decide +kernel
theorem dX12_sign_42 : decode cX12_sign 42 = .ok (.if_icmp .ge 21, 3) := by decide +kernel
theorem dX12_sign_45 : decode cX12_sign 45 = .ok (.aload_n 0, 1) := by decide +kernel
theorem dX12_sign_46 : decode cX12_sign 46 = .ok (.getfield 3, 3) := by decide +kernel
theorem dX12_sign_49 : decode cX12_sign 49 = .ok (.iload_n 3, 1) := by decide +kernel
theorem dX12_sign_50 : decode cX12_sign 50 = .ok (.iload 4, 2) := by decide +kernel
theorem dX12_sign_52 : decode cX12_sign 52 = .ok (.invokestatic 111, 3) := by decide +kernel
theorem dX12_sign_55 : decode cX12_sign 55 = .ok (.iconst 0, 1) := by decide +kernel
theorem dX12_sign_56 : decode cX12_sign 56 = .ok (.iastore, 1) := by decide +kernel
theorem dX12_sign_57 : decode cX12_sign 57 = .ok (.iinc 4 1, 3) := by decide +kernel
theorem dX12_sign_60 : decode cX12_sign 60 = .ok (.goto (-22), 3) := by decide +kernel
theorem dX12_sign_63 : decode cX12_sign 63 = .ok (.aload_n 0, 1) := by decide +kernel
theorem dX12_sign_64 : decode cX12_sign 64 = .ok (.getfield 3, 3) := by decide +kernel
theorem dX12_sign_67 : decode cX12_sign 67 = .ok (.iload_n 3, 1) := by decide +kernel
theorem dX12_sign_68 : decode cX12_sign 68 = .ok (.iconst 0, 1) := by decide +kernel
theorem dX12_sign_69 : decode cX12_sign 69 = .ok (.invokestatic 111, 3) := by decide +kernel
theorem dX12_sign_72 : decode cX12_sign 72 = .ok (.aload_n 0, 1) := by decide +kernel
theorem dX12_sign_73 : decode cX12_sign 73 = .ok (.getfield 3, 3) := by decide +kernel
theorem dX12_sign_76 : decode cX12_sign 76 = .ok (.iconst 0, 1) := by decide +kernel
theorem dX12_sign_77 : decode cX12_sign 77 = .ok (.iaload, 1) := by decide +kernel
theorem dX12_sign_78 : decode cX12_sign 78 = .ok (.iastore, 1) := by decide +kernel
theorem dX12_sign_79 : decode cX12_sign 79 = .ok (.aload_n 0, 1) := by decide +kernel
theorem dX12_sign_80 : decode cX12_sign 80 = .ok (.getfield 3, 3) := by decide +kernel
theorem dX12_sign_83 : decode cX12_sign 83 = .ok (.iload_n 3, 1) := by decide +kernel
theorem dX12_sign_84 : decode cX12_sign 84 = .ok (.iconst 1, 1) := by decide +kernel
theorem dX12_sign_85 : decode cX12_sign 85 = .ok (.invokestatic 111, 3) := by decide +kernel
theorem dX12_sign_88 : decode cX12_sign 88 = .ok (.aload_n 0, 1) := by decide +kernel
theorem dX12_sign_89 : decode cX12_sign 89 = .ok (.getfield 3, 3) := by decide +kernel
theorem dX12_sign_92 : decode cX12_sign 92 = .ok (.iload_n 2, 1) := by decide +kernel
theorem dX12_sign_93 : decode cX12_sign 93 = .ok (.iconst 1, 1) := by decide +kernel
theorem dX12_sign_94 : decode cX12_sign 94 = .ok (.iadd, 1) := by decide +kernel
theorem dX12_sign_95 : decode cX12_sign 95 = .ok (.iaload, 1) := by decide +kernel
theorem dX12_sign_96 : decode cX12_sign 96 = .ok (.iastore, 1) := by decide +kernel
theorem dX12_sign_97 : decode cX12_sign 97 = .ok (.iconst 0, 1) := by decide +kernel
theorem dX12_sign_98 : decode cX12_sign 98 = .ok (.istore 4, 2) := by decide +kernel
theorem dX12_sign_100 : decode cX12_sign 100 = .ok (.iload 4, 2) := by decide +kernel
theorem dX12_sign_102 : decode cX12_sign 102 = .ok (.aload_n 0, 1) := by decide +kernel
theorem dX12_sign_103 : decode cX12_sign 103 = .ok (.getfield 3, 3) := by decide +kernel
theorem dX12_sign_106 : decode cX12_sign 106 = .ok (.iload_n 2, 1) := by decide +kernel
theorem dX12_sign_107 : decode cX12_sign 107 = .ok (.iconst 1, 1) := by decide +kernel
theorem dX12_sign_108 : decode cX12_sign 108 = .ok (.iadd, 1) := by decide +kernel
theorem dX12_sign_109 : decode cX12_sign 109 = .ok (.iaload, 1) := by decide +kernel
theorem dX12_sign_110 : decode cX12_sign 110 = .ok (.if_icmp .ge 38, 3) := by decide +kernel
theorem dX12_sign_113 : decode cX12_sign 113 = .ok (.aload_n 0, 1) := by decide +kernel
theorem dX12_sign_114 : decode cX12_sign 114 = .ok (.getfield 3, 3) := by decide +kernel
theorem dX12_sign_117 : decode cX12_sign 117 = .ok (.iload_n 3, 1) := by decide +kernel
theorem dX12_sign_118 : decode cX12_sign 118 = .ok (.bipush 6, 2) := by decide +kernel
theorem dX12_sign_120 : decode cX12_sign 120 = .ok (.aload_n 0, 1) := by decide +kernel
theorem dX12_sign_121 : decode cX12_sign 121 = .ok (.getfield 3, 3) := by decide +kernel
theorem dX12_sign_124 : decode cX12_sign 124 = .ok (.iconst 0, 1) := by decide +kernel
theorem dX12_sign_125 : decode cX12_sign 125 = .ok (.iaload, 1) := by decide +kernel
theorem dX12_sign_126 : decode cX12_sign 126 = .ok (.iadd, 1) := by decide +kernel
theorem dX12_sign_127 : decode cX12_sign 127 = .ok (.iload 4, 2) := by decide +kernel
theorem dX12_sign_129 : decode cX12_sign 129 = .ok (.iadd, 1) := by decide +kernel
theorem dX12_sign_130 : decode cX12_sign 130 = .ok (.invokestatic 111, 3) := by decide +kernel
theorem dX12_sign_133 : decode cX12_sign 133 = .ok (.aload_n 0, 1) := by decide +kernel
theorem dX12_sign_134 : decode cX12_sign 134 = .ok (.getfield 3, 3) := by decide +kernel
theorem dX12_sign_137 : decode cX12_sign 137 = .ok (.iload_n 2, 1) := by decide +kernel
theorem dX12_sign_138 : decode cX12_sign 138 = .ok (.iconst 3, 1) := by decide +kernel
theorem dX12_sign_139 : decode cX12_sign 139 = .ok (.iadd, 1) := by decide +kernel
theorem dX12_sign_140 : decode cX12_sign 140 = .ok (.iaload, 1) := by decide +kernel
theorem dX12_sign_141 : decode cX12_sign 141 = .ok (.iastore, 1) := by decide +kernel
theorem dX12_sign_142 : decode cX12_sign 142 = .ok (.iinc 4 1, 3) := by decide +kernel
theorem dX12_sign_145 : decode cX12_sign 145 = .ok (.goto (-45), 3) := by decide +kernel
theorem dX12_sign_148 : decode cX12_sign 148 = .ok (.aload_n 0, 1) := by decide +kernel
theorem dX12_sign_149 : decode cX12_sign 149 = .ok (.iload_n 3, 1) := by decide +kernel
theorem dX12_sign_150 : decode cX12_sign 150 = .ok (.aload_n 0, 1) := by decide +kernel
theorem dX12_sign_151 : decode cX12_sign 151 = .ok (.getfield 3, 3) := by decide +kernel
theorem dX12_sign_154 : decode cX12_sign 154 = .ok (.iload_n 2, 1) := by decide +kernel
theorem dX12_sign_155 : decode cX12_sign 155 = .ok (.iconst 2, 1) := by decide +kernel
theorem dX12_sign_156 : decode cX12_sign 156 = .ok (.iadd, 1) := by decide +kernel
theorem dX12_sign_157 : decode cX12_sign 157 = .ok (.iaload, 1) := by decide +kernel
theorem dX12_sign_158 : decode cX12_sign 158 = .ok (.aload_n 0, 1) := by decide +kernel
theorem dX12_sign_159 : decode cX12_sign 159 = .ok (.getfield 3, 3) := by decide +kernel
theorem dX12_sign_162 : decode cX12_sign 162 = .ok (.iconst 0, 1) := by decide +kernel
theorem dX12_sign_163 : decode cX12_sign 163 = .ok (.iaload, 1) := by decide +kernel
theorem dX12_sign_164 : decode cX12_sign 164 = .ok (.invokevirtual 136, 3) := by decide +kernel
theorem dX12_sign_167 : decode cX12_sign 167 = .ok (.aload_n 0, 1) := by decide +kernel
theorem dX12_sign_168 : decode cX12_sign 168 = .ok (.getfield 3, 3) := by decide +kernel
theorem dX12_sign_171 : decode cX12_sign 171 = .ok (.bipush 7, 2) := by decide +kernel
theorem dX12_sign_173 : decode cX12_sign 173 = .ok (.dup2, 1) := by decide +kernel
theorem dX12_sign_174 : decode cX12_sign 174 = .ok (.iaload, 1) := by decide +kernel
theorem dX12_sign_175 : decode cX12_sign 175 = .ok (.iconst 1, 1) := by decide +kernel
theorem dX12_sign_176 : decode cX12_sign 176 = .ok (.iadd, 1) := by decide +kernel
theorem dX12_sign_177 : decode cX12_sign 177 = .ok (.iastore, 1) := by decide +kernel
theorem dX12_sign_178 : decode cX12_sign 178 = .ok (.aload_n 0, 1) := by decide +kernel
theorem dX12_sign_179 : decode cX12_sign 179 = .ok (.getfield 3, 3) := by decide +kernel
theorem dX12_sign_182 : decode cX12_sign 182 = .ok (.sipush 3570, 3) := by decide +kernel
theorem dX12_sign_185 : decode cX12_sign 185 = .ok (.dup2, 1) := by decide +kernel
theorem dX12_sign_186 : decode cX12_sign 186 = .ok (.iaload, 1) := by decide +kernel
theorem dX12_sign_187 : decode cX12_sign 187 = .ok (.iconst 1, 1) := by decide +kernel
theorem dX12_sign_188 : decode cX12_sign 188 = .ok (.isub, 1) := by decide +kernel
theorem dX12_sign_189 : decode cX12_sign 189 = .ok (.iastore, 1) := by decide +kernel
theorem dX12_sign_190 : decode cX12_sign 190 = .ok (.iload_n 2, 1) := by decide +kernel
theorem dX12_sign_191 : decode cX12_sign 191 = .ok (.istore 4, 2) := by decide +kernel
theorem dX12_sign_193 : decode cX12_sign 193 = .ok (.iload 4, 2) := by decide +kernel
theorem dX12_sign_195 : decode cX12_sign 195 = .ok (.sipush 3572, 3) := by decide +kernel
theorem dX12_sign_198 : decode cX12_sign 198 = .ok (.iconst 4, 1) := by decide +kernel
theorem dX12_sign_199 : decode cX12_sign 199 = .ok (.aload_n 0, 1) := by decide +kernel
theorem dX12_sign_200 : decode cX12_sign 200 = .ok (.getfield 3, 3) := by decide +kernel
theorem dX12_sign_203 : decode cX12_sign 203 = .ok (.sipush 3570, 3) := by decide +kernel
theorem dX12_sign_206 : decode cX12_sign 206 = .ok (.iaload, 1) := by decide +kernel
theorem dX12_sign_207 : decode cX12_sign 207 = .ok (.imul, 1) := by decide +kernel
theorem dX12_sign_208 : decode cX12_sign 208 = .ok (.iadd, 1) := by decide +kernel
theorem dX12_sign_209 : decode cX12_sign 209 = .ok (.if_icmp .ge 25, 3) := by decide +kernel
theorem dX12_sign_212 : decode cX12_sign 212 = .ok (.aload_n 0, 1) := by decide +kernel
theorem dX12_sign_213 : decode cX12_sign 213 = .ok (.getfield 3, 3) := by decide +kernel
theorem dX12_sign_216 : decode cX12_sign 216 = .ok (.iload 4, 2) := by decide +kernel
theorem dX12_sign_218 : decode cX12_sign 218 = .ok (.aload_n 0, 1) := by decide +kernel
theorem dX12_sign_219 : decode cX12_sign 219 = .ok (.getfield 3, 3) := by decide +kernel
theorem dX12_sign_222 : decode cX12_sign 222 = .ok (.iload 4, 2) := by decide +kernel
theorem dX12_sign_224 : decode cX12_sign 224 = .ok (.iconst 4, 1) := by decide +kernel
theorem dX12_sign_225 : decode cX12_sign 225 = .ok (.iadd, 1) := by decide +kernel
theorem dX12_sign_226 : decode cX12_sign 226 = .ok (.iaload, 1) := by decide +kernel
theorem dX12_sign_227 : decode cX12_sign 227 = .ok (.iastore, 1) := by decide +kernel
theorem dX12_sign_228 : decode cX12_sign 228 = .ok (.iinc 4 1, 3) := by decide +kernel
theorem dX12_sign_231 : decode cX12_sign 231 = .ok (.goto (-38), 3) := by decide +kernel
theorem dX12_sign_234 : decode cX12_sign 234 = .ok (.iload_n 3, 1) := by decide +kernel
theorem dX12_sign_235 : decode cX12_sign 235 = .ok (.ireturn, 1) := by decide +kernel
theorem dX12_whyNotLess_0 : decode cX12_whyNotLess 0 = .ok (.aload_n 0, 1) := by decide +kernel
theorem dX12_whyNotLess_1 : decode cX12_whyNotLess 1 = .ok (.iload_n 1, 1) := by decide +kernel
theorem dX12_whyNotLess_2 : decode cX12_whyNotLess 2 = .ok (.invokevirtual 278, 3) := by decide +kernel
theorem dX12_whyNotLess_5 : decode cX12_whyNotLess 5 = .ok (.istore_n 3, 1) := by decide +kernel
theorem dX12_whyNotLess_6 : decode cX12_whyNotLess 6 = .ok (.iload_n 3, 1) := by decide +kernel
theorem dX12_whyNotLess_7 : decode cX12_whyNotLess 7 = .ok (.ifCond .eq 7, 3) := by decide +kernel
theorem dX12_whyNotLess_10 : decode cX12_whyNotLess 10 = .ok (.iload_n 3, 1) := by decide +kernel
theorem dX12_whyNotLess_11 : decode cX12_whyNotLess 11 = .ok (.goto 50, 3) := by decide +kernel
theorem dX12_whyNotLess_14 : decode cX12_whyNotLess 14 = .ok (.iload_n 2, 1) := by decide +kernel
theorem dX12_whyNotLess_15 : decode cX12_whyNotLess 15 = .ok (.i2l, 1) := by decide +kernel
theorem dX12_whyNotLess_16 : decode cX12_whyNotLess 16 = .ok (.lconst 1, 1) := by decide +kernel
theorem dX12_whyNotLess_17 : decode cX12_whyNotLess 17 = .ok (.ldc2_w 287, 3) := by decide +kernel
theorem dX12_whyNotLess_20 : decode cX12_whyNotLess 20 = .ok (.invokestatic 68, 3) := by decide +kernel
theorem dX12_whyNotLess_23 : decode cX12_whyNotLess 23 = .ok (.ifCond .ne 7, 3) := by decide +kernel
theorem dX12_whyNotLess_26 : decode cX12_whyNotLess 26 = .ok (.iconst 4, 1) := by decide +kernel
theorem dX12_whyNotLess_27 : decode cX12_whyNotLess 27 = .ok (.goto 34, 3) := by decide +kernel
theorem dX12_whyNotLess_30 : decode cX12_whyNotLess 30 = .ok (.aload_n 0, 1) := by decide +kernel
theorem dX12_whyNotLess_31 : decode cX12_whyNotLess 31 = .ok (.iload_n 1, 1) := by decide +kernel
theorem dX12_whyNotLess_32 : decode cX12_whyNotLess 32 = .ok (.bipush 6, 2) := by decide +kernel
theorem dX12_whyNotLess_34 : decode cX12_whyNotLess 34 = .ok (.aload_n 0, 1) := by decide +kernel
theorem dX12_whyNotLess_35 : decode cX12_whyNotLess 35 = .ok (.getfield 3, 3) := by decide +kernel
theorem dX12_whyNotLess_38 : decode cX12_whyNotLess 38 = .ok (.iconst 0, 1) := by decide +kernel
theorem dX12_whyNotLess_39 : decode cX12_whyNotLess 39 = .ok (.iaload, 1) := by decide +kernel
theorem dX12_whyNotLess_40 : decode cX12_whyNotLess 40 = .ok (.iadd, 1) := by decide +kernel
theorem dX12_whyNotLess_41 : decode cX12_whyNotLess 41 = .ok (.invokevirtual 115, 3) := by decide +kernel
theorem dX12_whyNotLess_44 : decode cX12_whyNotLess 44 = .ok (.iload_n 2, 1) := by decide +kernel
theorem dX12_whyNotLess_45 : decode cX12_whyNotLess 45 = .ok (.isub, 1) := by decide +kernel
theorem dX12_whyNotLess_46 : decode cX12_whyNotLess 46 = .ok (.aload_n 0, 1) := by decide +kernel
theorem dX12_whyNotLess_47 : decode cX12_whyNotLess 47 = .ok (.getfield 3, 3) := by decide +kernel
theorem dX12_whyNotLess_50 : decode cX12_whyNotLess 50 = .ok (.bipush 6, 2) := by decide +kernel
theorem dX12_whyNotLess_52 : decode cX12_whyNotLess 52 = .ok (.iaload, 1) := by decide +kernel
theorem dX12_whyNotLess_53 : decode cX12_whyNotLess 53 = .ok (.if_icmp .ge 7, 3) := by decide +kernel
theorem dX12_whyNotLess_56 : decode cX12_whyNotLess 56 = .ok (.iconst 5, 1) := by decide +kernel
theorem dX12_whyNotLess_57 : decode cX12_whyNotLess 57 = .ok (.goto 4, 3) := by decide +kernel
theorem dX12_whyNotLess_60 : decode cX12_whyNotLess 60 = .ok (.iconst 0, 1) := by decide +kernel
theorem dX12_whyNotLess_61 : decode cX12_whyNotLess 61 = .ok (.ireturn, 1) := by decide +kernel
theorem dX12_turn_0 : decode cX12_turn 0 = .ok (.aload_n 0, 1) := by decide +kernel
theorem dX12_turn_1 : decode cX12_turn 1 = .ok (.aload_n 0, 1) := by decide +kernel
theorem dX12_turn_2 : decode cX12_turn 2 = .ok (.iload_n 1, 1) := by decide +kernel
theorem dX12_turn_3 : decode cX12_turn 3 = .ok (.iload_n 2, 1) := by decide +kernel
theorem dX12_turn_4 : decode cX12_turn 4 = .ok (.invokevirtual 308, 3) := by decide +kernel
theorem dX12_turn_7 : decode cX12_turn 7 = .ok (.invokevirtual 281, 3) := by decide +kernel
theorem dX12_turn_10 : decode cX12_turn 10 = .ok (.ifCond .eq 5, 3) := by decide +kernel
theorem dX12_turn_13 : decode cX12_turn 13 = .ok (.iconst (-1), 1) := by decide +kernel
theorem dX12_turn_14 : decode cX12_turn 14 = .ok (.ireturn, 1) := by decide +kernel
theorem dX12_turn_15 : decode cX12_turn 15 = .ok (.aload_n 0, 1) := by decide +kernel
theorem dX12_turn_16 : decode cX12_turn 16 = .ok (.iconst 0, 1) := by decide +kernel
theorem dX12_turn_17 : decode cX12_turn 17 = .ok (.invokevirtual 72, 3) := by decide +kernel
theorem dX12_turn_20 : decode cX12_turn 20 = .ok (.aload_n 0, 1) := by decide +kernel
theorem dX12_turn_21 : decode cX12_turn 21 = .ok (.getfield 3, 3) := by decide +kernel
theorem dX12_turn_24 : decode cX12_turn 24 = .ok (.iload_n 1, 1) := by decide +kernel
theorem dX12_turn_25 : decode cX12_turn 25 = .ok (.bipush 6, 2) := by decide +kernel
theorem dX12_turn_27 : decode cX12_turn 27 = .ok (.aload_n 0, 1) := by decide +kernel
theorem dX12_turn_28 : decode cX12_turn 28 = .ok (.getfield 3, 3) := by decide +kernel
theorem dX12_turn_31 : decode cX12_turn 31 = .ok (.iconst 0, 1) := by decide +kernel
theorem dX12_turn_32 : decode cX12_turn 32 = .ok (.iaload, 1) := by decide +kernel
theorem dX12_turn_33 : decode cX12_turn 33 = .ok (.iadd, 1) := by decide +kernel
theorem dX12_turn_34 : decode cX12_turn 34 = .ok (.invokestatic 111, 3) := by decide +kernel
theorem dX12_turn_37 : decode cX12_turn 37 = .ok (.dup2, 1) := by decide +kernel
theorem dX12_turn_38 : decode cX12_turn 38 = .ok (.iaload, 1) := by decide +kernel
theorem dX12_turn_39 : decode cX12_turn 39 = .ok (.iload_n 2, 1) := by decide +kernel
theorem dX12_turn_40 : decode cX12_turn 40 = .ok (.isub, 1) := by decide +kernel
theorem dX12_turn_41 : decode cX12_turn 41 = .ok (.iastore, 1) := by decide +kernel
theorem dX12_turn_42 : decode cX12_turn 42 = .ok (.aload_n 0, 1) := by decide +kernel
theorem dX12_turn_43 : decode cX12_turn 43 = .ok (.iload_n 1, 1) := by decide +kernel
theorem dX12_turn_44 : decode cX12_turn 44 = .ok (.iload_n 2, 1) := by decide +kernel
theorem dX12_turn_45 : decode cX12_turn 45 = .ok (.aload_n 0, 1) := by decide +kernel
theorem dX12_turn_46 : decode cX12_turn 46 = .ok (.getfield 3, 3) := by decide +kernel
theorem dX12_turn_49 : decode cX12_turn 49 = .ok (.iconst 0, 1) := by decide +kernel
theorem dX12_turn_50 : decode cX12_turn 50 = .ok (.iaload, 1) := by decide +kernel
theorem dX12_turn_51 : decode cX12_turn 51 = .ok (.invokevirtual 136, 3) := by decide +kernel
theorem dX12_turn_54 : decode cX12_turn 54 = .ok (.aload_n 0, 1) := by decide +kernel
theorem dX12_turn_55 : decode cX12_turn 55 = .ok (.iload_n 1, 1) := by decide +kernel
theorem dX12_turn_56 : decode cX12_turn 56 = .ok (.aload_n 0, 1) := by decide +kernel
theorem dX12_turn_57 : decode cX12_turn 57 = .ok (.getfield 3, 3) := by decide +kernel
theorem dX12_turn_60 : decode cX12_turn 60 = .ok (.iconst 0, 1) := by decide +kernel
theorem dX12_turn_61 : decode cX12_turn 61 = .ok (.iaload, 1) := by decide +kernel
theorem dX12_turn_62 : decode cX12_turn 62 = .ok (.invokevirtual 230, 3) := by decide +kernel
theorem dX12_turn_65 : decode cX12_turn 65 = .ok (.ireturn, 1) := by decide +kernel
theorem dX12_lower_0 : decode cX12_lower 0 = .ok (.aload_n 0, 1) := by decide +kernel
theorem dX12_lower_1 : decode cX12_lower 1 = .ok (.aload_n 0, 1) := by decide +kernel
theorem dX12_lower_2 : decode cX12_lower 2 = .ok (.iload_n 1, 1) := by decide +kernel
theorem dX12_lower_3 : decode cX12_lower 3 = .ok (.iload_n 2, 1) := by decide +kernel
theorem dX12_lower_4 : decode cX12_lower 4 = .ok (.invokevirtual 308, 3) := by decide +kernel
theorem dX12_lower_7 : decode cX12_lower 7 = .ok (.invokevirtual 281, 3) := by decide +kernel
theorem dX12_lower_10 : decode cX12_lower 10 = .ok (.ifCond .eq 5, 3) := by decide +kernel
theorem dX12_lower_13 : decode cX12_lower 13 = .ok (.iconst (-1), 1) := by decide +kernel
theorem dX12_lower_14 : decode cX12_lower 14 = .ok (.ireturn, 1) := by decide +kernel
theorem dX12_lower_15 : decode cX12_lower 15 = .ok (.aload_n 0, 1) := by decide +kernel
theorem dX12_lower_16 : decode cX12_lower 16 = .ok (.iconst 0, 1) := by decide +kernel
theorem dX12_lower_17 : decode cX12_lower 17 = .ok (.invokevirtual 72, 3) := by decide +kernel
theorem dX12_lower_20 : decode cX12_lower 20 = .ok (.aload_n 0, 1) := by decide +kernel
theorem dX12_lower_21 : decode cX12_lower 21 = .ok (.getfield 3, 3) := by decide +kernel
theorem dX12_lower_24 : decode cX12_lower 24 = .ok (.iload_n 1, 1) := by decide +kernel
theorem dX12_lower_25 : decode cX12_lower 25 = .ok (.bipush 6, 2) := by decide +kernel
theorem dX12_lower_27 : decode cX12_lower 27 = .ok (.aload_n 0, 1) := by decide +kernel
theorem dX12_lower_28 : decode cX12_lower 28 = .ok (.getfield 3, 3) := by decide +kernel
theorem dX12_lower_31 : decode cX12_lower 31 = .ok (.iconst 0, 1) := by decide +kernel
theorem dX12_lower_32 : decode cX12_lower 32 = .ok (.iaload, 1) := by decide +kernel
theorem dX12_lower_33 : decode cX12_lower 33 = .ok (.iadd, 1) := by decide +kernel
theorem dX12_lower_34 : decode cX12_lower 34 = .ok (.invokestatic 111, 3) := by decide +kernel
theorem dX12_lower_37 : decode cX12_lower 37 = .ok (.dup2, 1) := by decide +kernel
theorem dX12_lower_38 : decode cX12_lower 38 = .ok (.iaload, 1) := by decide +kernel
theorem dX12_lower_39 : decode cX12_lower 39 = .ok (.iload_n 2, 1) := by decide +kernel
theorem dX12_lower_40 : decode cX12_lower 40 = .ok (.isub, 1) := by decide +kernel
theorem dX12_lower_41 : decode cX12_lower 41 = .ok (.iastore, 1) := by decide +kernel
theorem dX12_lower_42 : decode cX12_lower 42 = .ok (.aload_n 0, 1) := by decide +kernel
theorem dX12_lower_43 : decode cX12_lower 43 = .ok (.iload_n 1, 1) := by decide +kernel
theorem dX12_lower_44 : decode cX12_lower 44 = .ok (.aload_n 0, 1) := by decide +kernel
theorem dX12_lower_45 : decode cX12_lower 45 = .ok (.getfield 3, 3) := by decide +kernel
theorem dX12_lower_48 : decode cX12_lower 48 = .ok (.iconst 0, 1) := by decide +kernel
theorem dX12_lower_49 : decode cX12_lower 49 = .ok (.iaload, 1) := by decide +kernel
theorem dX12_lower_50 : decode cX12_lower 50 = .ok (.invokevirtual 230, 3) := by decide +kernel
theorem dX12_lower_53 : decode cX12_lower 53 = .ok (.ireturn, 1) := by decide +kernel
theorem dX12_whyNotLonger_0 : decode cX12_whyNotLonger 0 = .ok (.aload_n 0, 1) := by decide +kernel
theorem dX12_whyNotLonger_1 : decode cX12_whyNotLonger 1 = .ok (.iload_n 1, 1) := by decide +kernel
theorem dX12_whyNotLonger_2 : decode cX12_whyNotLonger 2 = .ok (.invokevirtual 278, 3) := by decide +kernel
theorem dX12_whyNotLonger_5 : decode cX12_whyNotLonger 5 = .ok (.istore 5, 2) := by decide +kernel
theorem dX12_whyNotLonger_7 : decode cX12_whyNotLonger 7 = .ok (.iload 5, 2) := by decide +kernel
theorem dX12_whyNotLonger_9 : decode cX12_whyNotLonger 9 = .ok (.ifCond .eq 6, 3) := by decide +kernel
theorem dX12_whyNotLonger_12 : decode cX12_whyNotLonger 12 = .ok (.iload 5, 2) := by decide +kernel
theorem dX12_whyNotLonger_14 : decode cX12_whyNotLonger 14 = .ok (.ireturn, 1) := by decide +kernel
theorem dX12_whyNotLonger_15 : decode cX12_whyNotLonger 15 = .ok (.iload_n 2, 1) := by decide +kernel
theorem dX12_whyNotLonger_16 : decode cX12_whyNotLonger 16 = .ok (.i2l, 1) := by decide +kernel
theorem dX12_whyNotLonger_17 : decode cX12_whyNotLonger 17 = .ok (.lconst 1, 1) := by decide +kernel
theorem dX12_whyNotLonger_18 : decode cX12_whyNotLonger 18 = .ok (.ldc2_w 311, 3) := by decide +kernel
theorem dX12_whyNotLonger_21 : decode cX12_whyNotLonger 21 = .ok (.invokestatic 68, 3) := by decide +kernel
theorem dX12_whyNotLonger_24 : decode cX12_whyNotLonger 24 = .ok (.ifCond .eq 28, 3) := by decide +kernel
theorem dX12_whyNotLonger_27 : decode cX12_whyNotLonger 27 = .ok (.iload_n 3, 1) := by decide +kernel
theorem dX12_whyNotLonger_28 : decode cX12_whyNotLonger 28 = .ok (.i2l, 1) := by decide +kernel
theorem dX12_whyNotLonger_29 : decode cX12_whyNotLonger 29 = .ok (.lconst 0, 1) := by decide +kernel
theorem dX12_whyNotLonger_30 : decode cX12_whyNotLonger 30 = .ok (.ldc2_w 287, 3) := by decide +kernel
theorem dX12_whyNotLonger_33 : decode cX12_whyNotLonger 33 = .ok (.invokestatic 68, 3) := by decide +kernel
theorem dX12_whyNotLonger_36 : decode cX12_whyNotLonger 36 = .ok (.ifCond .eq 16, 3) := by decide +kernel
theorem dX12_whyNotLonger_39 : decode cX12_whyNotLonger 39 = .ok (.iload 4, 2) := by decide +kernel
theorem dX12_whyNotLonger_41 : decode cX12_whyNotLonger 41 = .ok (.i2l, 1) := by decide +kernel
theorem dX12_whyNotLonger_42 : decode cX12_whyNotLonger 42 = .ok (.lconst 0, 1) := by decide +kernel
theorem dX12_whyNotLonger_43 : decode cX12_whyNotLonger 43 = .ok (.ldc2_w 287, 3) := by decide +kernel
theorem dX12_whyNotLonger_46 : decode cX12_whyNotLonger 46 = .ok (.invokestatic 68, 3) := by decide +kernel
theorem dX12_whyNotLonger_49 : decode cX12_whyNotLonger 49 = .ok (.ifCond .ne 5, 3) := by decide +kernel
theorem dX12_whyNotLonger_52 : decode cX12_whyNotLonger 52 = .ok (.iconst 4, 1) := by decide +kernel
theorem dX12_whyNotLonger_53 : decode cX12_whyNotLonger 53 = .ok (.ireturn, 1) := by decide +kernel
theorem dX12_whyNotLonger_54 : decode cX12_whyNotLonger 54 = .ok (.iload_n 3, 1) := by decide +kernel
theorem dX12_whyNotLonger_55 : decode cX12_whyNotLonger 55 = .ok (.aload_n 0, 1) := by decide +kernel
theorem dX12_whyNotLonger_56 : decode cX12_whyNotLonger 56 = .ok (.getfield 3, 3) := by decide +kernel
theorem dX12_whyNotLonger_59 : decode cX12_whyNotLonger 59 = .ok (.bipush 6, 2) := by decide +kernel
theorem dX12_whyNotLonger_61 : decode cX12_whyNotLonger 61 = .ok (.iaload, 1) := by decide +kernel
theorem dX12_whyNotLonger_62 : decode cX12_whyNotLonger 62 = .ok (.if_icmp .ge 7, 3) := by decide +kernel
theorem dX12_whyNotLonger_65 : decode cX12_whyNotLonger 65 = .ok (.iconst 5, 1) := by decide +kernel
theorem dX12_whyNotLonger_66 : decode cX12_whyNotLonger 66 = .ok (.goto 41, 3) := by decide +kernel
theorem dX12_whyNotLonger_69 : decode cX12_whyNotLonger 69 = .ok (.aload_n 0, 1) := by decide +kernel
theorem dX12_whyNotLonger_70 : decode cX12_whyNotLonger 70 = .ok (.iload_n 1, 1) := by decide +kernel
theorem dX12_whyNotLonger_71 : decode cX12_whyNotLonger 71 = .ok (.iconst 1, 1) := by decide +kernel
theorem dX12_whyNotLonger_72 : decode cX12_whyNotLonger 72 = .ok (.invokevirtual 115, 3) := by decide +kernel
theorem dX12_whyNotLonger_75 : decode cX12_whyNotLonger 75 = .ok (.aload_n 0, 1) := by decide +kernel
theorem dX12_whyNotLonger_76 : decode cX12_whyNotLonger 76 = .ok (.iload_n 1, 1) := by decide +kernel
theorem dX12_whyNotLonger_77 : decode cX12_whyNotLonger 77 = .ok (.iconst 2, 1) := by decide +kernel
theorem dX12_whyNotLonger_78 : decode cX12_whyNotLonger 78 = .ok (.invokevirtual 115, 3) := by decide +kernel
theorem dX12_whyNotLonger_81 : decode cX12_whyNotLonger 81 = .ok (.iadd, 1) := by decide +kernel
theorem dX12_whyNotLonger_82 : decode cX12_whyNotLonger 82 = .ok (.iload_n 2, 1) := by decide +kernel
theorem dX12_whyNotLonger_83 : decode cX12_whyNotLonger 83 = .ok (.iadd, 1) := by decide +kernel
theorem dX12_whyNotLonger_84 : decode cX12_whyNotLonger 84 = .ok (.bipush 10, 2) := by decide +kernel
theorem dX12_whyNotLonger_86 : decode cX12_whyNotLonger 86 = .ok (.if_icmp .gt 15, 3) := by decide +kernel
theorem dX12_whyNotLonger_89 : decode cX12_whyNotLonger 89 = .ok (.aload_n 0, 1) := by decide +kernel
theorem dX12_whyNotLonger_90 : decode cX12_whyNotLonger 90 = .ok (.iload_n 1, 1) := by decide +kernel
theorem dX12_whyNotLonger_91 : decode cX12_whyNotLonger 91 = .ok (.invokevirtual 118, 3) := by decide +kernel
theorem dX12_whyNotLonger_94 : decode cX12_whyNotLonger 94 = .ok (.iload_n 2, 1) := by decide +kernel
theorem dX12_whyNotLonger_95 : decode cX12_whyNotLonger 95 = .ok (.iadd, 1) := by decide +kernel
theorem dX12_whyNotLonger_96 : decode cX12_whyNotLonger 96 = .ok (.bipush 19, 2) := by decide +kernel
theorem dX12_whyNotLonger_98 : decode cX12_whyNotLonger 98 = .ok (.if_icmp .le 8, 3) := by decide +kernel
theorem dX12_whyNotLonger_101 : decode cX12_whyNotLonger 101 = .ok (.bipush 6, 2) := by decide +kernel
theorem dX12_whyNotLonger_103 : decode cX12_whyNotLonger 103 = .ok (.goto 4, 3) := by decide +kernel
theorem dX12_whyNotLonger_106 : decode cX12_whyNotLonger 106 = .ok (.iconst 0, 1) := by decide +kernel
theorem dX12_whyNotLonger_107 : decode cX12_whyNotLonger 107 = .ok (.ireturn, 1) := by decide +kernel
theorem dX12_longer_0 : decode cX12_longer 0 = .ok (.aload_n 0, 1) := by decide +kernel
theorem dX12_longer_1 : decode cX12_longer 1 = .ok (.aload_n 0, 1) := by decide +kernel
theorem dX12_longer_2 : decode cX12_longer 2 = .ok (.iload_n 1, 1) := by decide +kernel
theorem dX12_longer_3 : decode cX12_longer 3 = .ok (.iload_n 2, 1) := by decide +kernel
theorem dX12_longer_4 : decode cX12_longer 4 = .ok (.iload_n 3, 1) := by decide +kernel
theorem dX12_longer_5 : decode cX12_longer 5 = .ok (.iload 4, 2) := by decide +kernel
theorem dX12_longer_7 : decode cX12_longer 7 = .ok (.invokevirtual 313, 3) := by decide +kernel
theorem dX12_longer_10 : decode cX12_longer 10 = .ok (.invokevirtual 281, 3) := by decide +kernel
theorem dX12_longer_13 : decode cX12_longer 13 = .ok (.ifCond .eq 5, 3) := by decide +kernel
theorem dX12_longer_16 : decode cX12_longer 16 = .ok (.iconst (-1), 1) := by decide +kernel
theorem dX12_longer_17 : decode cX12_longer 17 = .ok (.ireturn, 1) := by decide +kernel
theorem dX12_longer_18 : decode cX12_longer 18 = .ok (.aload_n 0, 1) := by decide +kernel
theorem dX12_longer_19 : decode cX12_longer 19 = .ok (.iconst 0, 1) := by decide +kernel
theorem dX12_longer_20 : decode cX12_longer 20 = .ok (.invokevirtual 72, 3) := by decide +kernel
theorem dX12_longer_23 : decode cX12_longer 23 = .ok (.iconst 0, 1) := by decide +kernel
theorem dX12_longer_24 : decode cX12_longer 24 = .ok (.istore 5, 2) := by decide +kernel
theorem dX12_longer_26 : decode cX12_longer 26 = .ok (.iload 5, 2) := by decide +kernel
theorem dX12_longer_28 : decode cX12_longer 28 = .ok (.iload_n 2, 1) := by decide +kernel
theorem dX12_longer_29 : decode cX12_longer 29 = .ok (.if_icmp .ge 30, 3) := by decide +kernel
theorem dX12_longer_32 : decode cX12_longer 32 = .ok (.aload_n 0, 1) := by decide +kernel
theorem dX12_longer_33 : decode cX12_longer 33 = .ok (.getfield 3, 3) := by decide +kernel
theorem dX12_longer_36 : decode cX12_longer 36 = .ok (.iload_n 1, 1) := by decide +kernel
theorem dX12_longer_37 : decode cX12_longer 37 = .ok (.bipush 6, 2) := by decide +kernel
theorem dX12_longer_39 : decode cX12_longer 39 = .ok (.aload_n 0, 1) := by decide +kernel
theorem dX12_longer_40 : decode cX12_longer 40 = .ok (.iload_n 1, 1) := by decide +kernel
theorem dX12_longer_41 : decode cX12_longer 41 = .ok (.invokevirtual 132, 3) := by decide +kernel
theorem dX12_longer_44 : decode cX12_longer 44 = .ok (.iadd, 1) := by decide +kernel
theorem dX12_longer_45 : decode cX12_longer 45 = .ok (.iload 5, 2) := by decide +kernel
theorem dX12_longer_47 : decode cX12_longer 47 = .ok (.iadd, 1) := by decide +kernel
theorem dX12_longer_48 : decode cX12_longer 48 = .ok (.invokestatic 111, 3) := by decide +kernel
theorem dX12_longer_51 : decode cX12_longer 51 = .ok (.iload_n 3, 1) := by decide +kernel
theorem dX12_longer_52 : decode cX12_longer 52 = .ok (.iastore, 1) := by decide +kernel
theorem dX12_longer_53 : decode cX12_longer 53 = .ok (.iinc 5 1, 3) := by decide +kernel
theorem dX12_longer_56 : decode cX12_longer 56 = .ok (.goto (-30), 3) := by decide +kernel
theorem dX12_longer_59 : decode cX12_longer 59 = .ok (.aload_n 0, 1) := by decide +kernel
theorem dX12_longer_60 : decode cX12_longer 60 = .ok (.getfield 3, 3) := by decide +kernel
theorem dX12_longer_63 : decode cX12_longer 63 = .ok (.iload_n 1, 1) := by decide +kernel
theorem dX12_longer_64 : decode cX12_longer 64 = .ok (.iconst 1, 1) := by decide +kernel
theorem dX12_longer_65 : decode cX12_longer 65 = .ok (.invokestatic 111, 3) := by decide +kernel
theorem dX12_longer_68 : decode cX12_longer 68 = .ok (.dup2, 1) := by decide +kernel
theorem dX12_longer_69 : decode cX12_longer 69 = .ok (.iaload, 1) := by decide +kernel
theorem dX12_longer_70 : decode cX12_longer 70 = .ok (.iload_n 2, 1) := by decide +kernel
theorem dX12_longer_71 : decode cX12_longer 71 = .ok (.iadd, 1) := by decide +kernel
theorem dX12_longer_72 : decode cX12_longer 72 = .ok (.iastore, 1) := by decide +kernel
theorem dX12_longer_73 : decode cX12_longer 73 = .ok (.aload_n 0, 1) := by decide +kernel
theorem dX12_longer_74 : decode cX12_longer 74 = .ok (.iload_n 1, 1) := by decide +kernel
theorem dX12_longer_75 : decode cX12_longer 75 = .ok (.iload 4, 2) := by decide +kernel
theorem dX12_longer_77 : decode cX12_longer 77 = .ok (.aload_n 0, 1) := by decide +kernel
theorem dX12_longer_78 : decode cX12_longer 78 = .ok (.getfield 3, 3) := by decide +kernel
theorem dX12_longer_81 : decode cX12_longer 81 = .ok (.iconst 0, 1) := by decide +kernel
theorem dX12_longer_82 : decode cX12_longer 82 = .ok (.iaload, 1) := by decide +kernel
theorem dX12_longer_83 : decode cX12_longer 83 = .ok (.invokevirtual 136, 3) := by decide +kernel
theorem dX12_longer_86 : decode cX12_longer 86 = .ok (.aload_n 0, 1) := by decide +kernel
theorem dX12_longer_87 : decode cX12_longer 87 = .ok (.iload_n 1, 1) := by decide +kernel
theorem dX12_longer_88 : decode cX12_longer 88 = .ok (.invokevirtual 118, 3) := by decide +kernel
theorem dX12_longer_91 : decode cX12_longer 91 = .ok (.ireturn, 1) := by decide +kernel
theorem dX12_days_0 : decode cX12_days 0 = .ok (.aload_n 0, 1) := by decide +kernel
theorem dX12_days_1 : decode cX12_days 1 = .ok (.iload_n 1, 1) := by decide +kernel
theorem dX12_days_2 : decode cX12_days 2 = .ok (.iconst 1, 1) := by decide +kernel
theorem dX12_days_3 : decode cX12_days 3 = .ok (.if_icmp .lt 17, 3) := by decide +kernel
theorem dX12_days_6 : decode cX12_days 6 = .ok (.iload_n 1, 1) := by decide +kernel
theorem dX12_days_7 : decode cX12_days 7 = .ok (.sipush 364, 3) := by decide +kernel
theorem dX12_days_10 : decode cX12_days 10 = .ok (.aload_n 0, 1) := by decide +kernel
theorem dX12_days_11 : decode cX12_days 11 = .ok (.getfield 3, 3) := by decide +kernel
theorem dX12_days_14 : decode cX12_days 14 = .ok (.iconst 1, 1) := by decide +kernel
theorem dX12_days_15 : decode cX12_days 15 = .ok (.iaload, 1) := by decide +kernel
theorem dX12_days_16 : decode cX12_days 16 = .ok (.isub, 1) := by decide +kernel
theorem dX12_days_17 : decode cX12_days 17 = .ok (.if_icmp .le 7, 3) := by decide +kernel
theorem dX12_days_20 : decode cX12_days 20 = .ok (.iconst 4, 1) := by decide +kernel
theorem dX12_days_21 : decode cX12_days 21 = .ok (.goto 4, 3) := by decide +kernel
theorem dX12_days_24 : decode cX12_days 24 = .ok (.iconst 0, 1) := by decide +kernel
theorem dX12_days_25 : decode cX12_days 25 = .ok (.invokevirtual 281, 3) := by decide +kernel
theorem dX12_days_28 : decode cX12_days 28 = .ok (.ifCond .eq 5, 3) := by decide +kernel
theorem dX12_days_31 : decode cX12_days 31 = .ok (.iconst (-1), 1) := by decide +kernel
theorem dX12_days_32 : decode cX12_days 32 = .ok (.ireturn, 1) := by decide +kernel
theorem dX12_days_33 : decode cX12_days 33 = .ok (.aload_n 0, 1) := by decide +kernel
theorem dX12_days_34 : decode cX12_days 34 = .ok (.iconst 0, 1) := by decide +kernel
theorem dX12_days_35 : decode cX12_days 35 = .ok (.invokevirtual 72, 3) := by decide +kernel
theorem dX12_days_38 : decode cX12_days 38 = .ok (.aload_n 0, 1) := by decide +kernel
theorem dX12_days_39 : decode cX12_days 39 = .ok (.getfield 3, 3) := by decide +kernel
theorem dX12_days_42 : decode cX12_days 42 = .ok (.iconst 1, 1) := by decide +kernel
theorem dX12_days_43 : decode cX12_days 43 = .ok (.dup2, 1) := by decide +kernel
theorem dX12_days_44 : decode cX12_days 44 = .ok (.iaload, 1) := by decide +kernel
theorem dX12_days_45 : decode cX12_days 45 = .ok (.iload_n 1, 1) := by decide +kernel
theorem dX12_days_46 : decode cX12_days 46 = .ok (.iadd, 1) := by decide +kernel
theorem dX12_days_47 : decode cX12_days 47 = .ok (.iastore, 1) := by decide +kernel
theorem dX12_days_48 : decode cX12_days 48 = .ok (.aload_n 0, 1) := by decide +kernel
theorem dX12_days_49 : decode cX12_days 49 = .ok (.getfield 3, 3) := by decide +kernel
theorem dX12_days_52 : decode cX12_days 52 = .ok (.iconst 1, 1) := by decide +kernel
theorem dX12_days_53 : decode cX12_days 53 = .ok (.iaload, 1) := by decide +kernel
theorem dX12_days_54 : decode cX12_days 54 = .ok (.ireturn, 1) := by decide +kernel
theorem dX12_year_0 : decode cX12_year 0 = .ok (.aload_n 0, 1) := by decide +kernel
theorem dX12_year_1 : decode cX12_year 1 = .ok (.aload_n 0, 1) := by decide +kernel
theorem dX12_year_2 : decode cX12_year 2 = .ok (.getfield 3, 3) := by decide +kernel
theorem dX12_year_5 : decode cX12_year 5 = .ok (.iconst 0, 1) := by decide +kernel
theorem dX12_year_6 : decode cX12_year 6 = .ok (.iaload, 1) := by decide +kernel
theorem dX12_year_7 : decode cX12_year 7 = .ok (.bipush 19, 2) := by decide +kernel
theorem dX12_year_9 : decode cX12_year 9 = .ok (.if_icmp .ne 8, 3) := by decide +kernel
theorem dX12_year_12 : decode cX12_year 12 = .ok (.bipush 7, 2) := by decide +kernel
theorem dX12_year_14 : decode cX12_year 14 = .ok (.goto 4, 3) := by decide +kernel
theorem dX12_year_17 : decode cX12_year 17 = .ok (.iconst 0, 1) := by decide +kernel
theorem dX12_year_18 : decode cX12_year 18 = .ok (.invokevirtual 281, 3) := by decide +kernel
theorem dX12_year_21 : decode cX12_year 21 = .ok (.ifCond .eq 5, 3) := by decide +kernel
theorem dX12_year_24 : decode cX12_year 24 = .ok (.iconst (-1), 1) := by decide +kernel
theorem dX12_year_25 : decode cX12_year 25 = .ok (.ireturn, 1) := by decide +kernel
theorem dX12_year_26 : decode cX12_year 26 = .ok (.iconst 0, 1) := by decide +kernel
theorem dX12_year_27 : decode cX12_year 27 = .ok (.aload_n 0, 1) := by decide +kernel
theorem dX12_year_28 : decode cX12_year 28 = .ok (.lconst 0, 1) := by decide +kernel
theorem dX12_year_29 : decode cX12_year 29 = .ok (.lconst 0, 1) := by decide +kernel
theorem dX12_year_30 : decode cX12_year 30 = .ok (.invokevirtual 246, 3) := by decide +kernel
theorem dX12_year_33 : decode cX12_year 33 = .ok (.invokestatic 224, 3) := by decide +kernel
theorem dX12_year_36 : decode cX12_year 36 = .ok (.istore_n 1, 1) := by decide +kernel
theorem dX12_year_37 : decode cX12_year 37 = .ok (.iconst 0, 1) := by decide +kernel
theorem dX12_year_38 : decode cX12_year 38 = .ok (.istore_n 2, 1) := by decide +kernel
theorem dX12_year_39 : decode cX12_year 39 = .ok (.iload_n 2, 1) := by decide +kernel
theorem dX12_year_40 : decode cX12_year 40 = .ok (.aload_n 0, 1) := by decide +kernel
theorem dX12_year_41 : decode cX12_year 41 = .ok (.getfield 3, 3) := by decide +kernel
theorem dX12_year_44 : decode cX12_year 44 = .ok (.bipush 7, 2) := by decide +kernel
theorem dX12_year_46 : decode cX12_year 46 = .ok (.iaload, 1) := by decide +kernel
theorem dX12_year_47 : decode cX12_year 47 = .ok (.if_icmp .ge 47, 3) := by decide +kernel
theorem dX12_year_50 : decode cX12_year 50 = .ok (.aload_n 0, 1) := by decide +kernel
theorem dX12_year_51 : decode cX12_year 51 = .ok (.iload_n 2, 1) := by decide +kernel
theorem dX12_year_52 : decode cX12_year 52 = .ok (.invokevirtual 209, 3) := by decide +kernel
theorem dX12_year_55 : decode cX12_year 55 = .ok (.ifCond .eq 33, 3) := by decide +kernel
theorem dX12_year_58 : decode cX12_year 58 = .ok (.iload_n 1, 1) := by decide +kernel
theorem dX12_year_59 : decode cX12_year 59 = .ok (.aload_n 0, 1) := by decide +kernel
theorem dX12_year_60 : decode cX12_year 60 = .ok (.iload_n 2, 1) := by decide +kernel
theorem dX12_year_61 : decode cX12_year 61 = .ok (.aload_n 0, 1) := by decide +kernel
theorem dX12_year_62 : decode cX12_year 62 = .ok (.getfield 3, 3) := by decide +kernel
theorem dX12_year_65 : decode cX12_year 65 = .ok (.iconst 0, 1) := by decide +kernel
theorem dX12_year_66 : decode cX12_year 66 = .ok (.iaload, 1) := by decide +kernel
theorem dX12_year_67 : decode cX12_year 67 = .ok (.iconst 1, 1) := by decide +kernel
theorem dX12_year_68 : decode cX12_year 68 = .ok (.iconst 0, 1) := by decide +kernel
theorem dX12_year_69 : decode cX12_year 69 = .ok (.invokevirtual 237, 3) := by decide +kernel
theorem dX12_year_72 : decode cX12_year 72 = .ok (.aload_n 0, 1) := by decide +kernel
theorem dX12_year_73 : decode cX12_year 73 = .ok (.iload_n 2, 1) := by decide +kernel
theorem dX12_year_74 : decode cX12_year 74 = .ok (.aload_n 0, 1) := by decide +kernel
theorem dX12_year_75 : decode cX12_year 75 = .ok (.getfield 3, 3) := by decide +kernel
theorem dX12_year_78 : decode cX12_year 78 = .ok (.iconst 0, 1) := by decide +kernel
theorem dX12_year_79 : decode cX12_year 79 = .ok (.iaload, 1) := by decide +kernel
theorem dX12_year_80 : decode cX12_year 80 = .ok (.iconst 0, 1) := by decide +kernel
theorem dX12_year_81 : decode cX12_year 81 = .ok (.iconst 1, 1) := by decide +kernel
theorem dX12_year_82 : decode cX12_year 82 = .ok (.invokevirtual 237, 3) := by decide +kernel
theorem dX12_year_85 : decode cX12_year 85 = .ok (.isub, 1) := by decide +kernel
theorem dX12_year_86 : decode cX12_year 86 = .ok (.iadd, 1) := by decide +kernel
theorem dX12_year_87 : decode cX12_year 87 = .ok (.istore_n 1, 1) := by decide +kernel
theorem dX12_year_88 : decode cX12_year 88 = .ok (.iinc 2 1, 3) := by decide +kernel
theorem dX12_year_91 : decode cX12_year 91 = .ok (.goto (-52), 3) := by decide +kernel
theorem dX12_year_94 : decode cX12_year 94 = .ok (.aload_n 0, 1) := by decide +kernel
theorem dX12_year_95 : decode cX12_year 95 = .ok (.iconst 0, 1) := by decide +kernel
theorem dX12_year_96 : decode cX12_year 96 = .ok (.invokevirtual 72, 3) := by decide +kernel
theorem dX12_year_99 : decode cX12_year 99 = .ok (.aload_n 0, 1) := by decide +kernel
theorem dX12_year_100 : decode cX12_year 100 = .ok (.getfield 3, 3) := by decide +kernel
theorem dX12_year_103 : decode cX12_year 103 = .ok (.iconst 0, 1) := by decide +kernel
theorem dX12_year_104 : decode cX12_year 104 = .ok (.dup2, 1) := by decide +kernel
theorem dX12_year_105 : decode cX12_year 105 = .ok (.iaload, 1) := by decide +kernel
theorem dX12_year_106 : decode cX12_year 106 = .ok (.iconst 1, 1) := by decide +kernel
theorem dX12_year_107 : decode cX12_year 107 = .ok (.iadd, 1) := by decide +kernel
theorem dX12_year_108 : decode cX12_year 108 = .ok (.iastore, 1) := by decide +kernel
theorem dX12_year_109 : decode cX12_year 109 = .ok (.aload_n 0, 1) := by decide +kernel
theorem dX12_year_110 : decode cX12_year 110 = .ok (.getfield 3, 3) := by decide +kernel
theorem dX12_year_113 : decode cX12_year 113 = .ok (.iconst 1, 1) := by decide +kernel
theorem dX12_year_114 : decode cX12_year 114 = .ok (.iconst 0, 1) := by decide +kernel
theorem dX12_year_115 : decode cX12_year 115 = .ok (.iastore, 1) := by decide +kernel
theorem dX12_year_116 : decode cX12_year 116 = .ok (.aload_n 0, 1) := by decide +kernel
theorem dX12_year_117 : decode cX12_year 117 = .ok (.getfield 3, 3) := by decide +kernel
theorem dX12_year_120 : decode cX12_year 120 = .ok (.bipush 10, 2) := by decide +kernel
theorem dX12_year_122 : decode cX12_year 122 = .ok (.aload_n 0, 1) := by decide +kernel
theorem dX12_year_123 : decode cX12_year 123 = .ok (.getfield 3, 3) := by decide +kernel
theorem dX12_year_126 : decode cX12_year 126 = .ok (.iconst 0, 1) := by decide +kernel
theorem dX12_year_127 : decode cX12_year 127 = .ok (.iaload, 1) := by decide +kernel
theorem dX12_year_128 : decode cX12_year 128 = .ok (.iadd, 1) := by decide +kernel
theorem dX12_year_129 : decode cX12_year 129 = .ok (.iconst 0, 1) := by decide +kernel
theorem dX12_year_130 : decode cX12_year 130 = .ok (.ldc 106, 2) := by decide +kernel
theorem dX12_year_132 : decode cX12_year 132 = .ok (.aload_n 0, 1) := by decide +kernel
theorem dX12_year_133 : decode cX12_year 133 = .ok (.getfield 3, 3) := by decide +kernel
theorem dX12_year_136 : decode cX12_year 136 = .ok (.bipush 10, 2) := by decide +kernel
theorem dX12_year_138 : decode cX12_year 138 = .ok (.aload_n 0, 1) := by decide +kernel
theorem dX12_year_139 : decode cX12_year 139 = .ok (.getfield 3, 3) := by decide +kernel
theorem dX12_year_142 : decode cX12_year 142 = .ok (.iconst 0, 1) := by decide +kernel
theorem dX12_year_143 : decode cX12_year 143 = .ok (.iaload, 1) := by decide +kernel
theorem dX12_year_144 : decode cX12_year 144 = .ok (.iadd, 1) := by decide +kernel
theorem dX12_year_145 : decode cX12_year 145 = .ok (.iaload, 1) := by decide +kernel
theorem dX12_year_146 : decode cX12_year 146 = .ok (.iload_n 1, 1) := by decide +kernel
theorem dX12_year_147 : decode cX12_year 147 = .ok (.iadd, 1) := by decide +kernel
theorem dX12_year_148 : decode cX12_year 148 = .ok (.invokestatic 122, 3) := by decide +kernel
theorem dX12_year_151 : decode cX12_year 151 = .ok (.invokestatic 224, 3) := by decide +kernel
theorem dX12_year_154 : decode cX12_year 154 = .ok (.iastore, 1) := by decide +kernel
theorem dX12_year_155 : decode cX12_year 155 = .ok (.iconst 0, 1) := by decide +kernel
theorem dX12_year_156 : decode cX12_year 156 = .ok (.istore_n 2, 1) := by decide +kernel
theorem dX12_year_157 : decode cX12_year 157 = .ok (.iconst 0, 1) := by decide +kernel
theorem dX12_year_158 : decode cX12_year 158 = .ok (.istore_n 3, 1) := by decide +kernel
theorem dX12_year_159 : decode cX12_year 159 = .ok (.iload_n 3, 1) := by decide +kernel
theorem dX12_year_160 : decode cX12_year 160 = .ok (.aload_n 0, 1) := by decide +kernel
theorem dX12_year_161 : decode cX12_year 161 = .ok (.getfield 3, 3) := by decide +kernel
theorem dX12_year_164 : decode cX12_year 164 = .ok (.bipush 7, 2) := by decide +kernel
theorem dX12_year_166 : decode cX12_year 166 = .ok (.iaload, 1) := by decide +kernel
theorem dX12_year_167 : decode cX12_year 167 = .ok (.if_icmp .ge 71, 3) := by decide +kernel
theorem dX12_year_170 : decode cX12_year 170 = .ok (.aload_n 0, 1) := by decide +kernel
theorem dX12_year_171 : decode cX12_year 171 = .ok (.iload_n 3, 1) := by decide +kernel
theorem dX12_year_172 : decode cX12_year 172 = .ok (.invokevirtual 209, 3) := by decide +kernel
theorem dX12_year_175 : decode cX12_year 175 = .ok (.ifCond .eq 57, 3) := by decide +kernel
theorem dX12_year_178 : decode cX12_year 178 = .ok (.aload_n 0, 1) := by decide +kernel
theorem dX12_year_179 : decode cX12_year 179 = .ok (.iload_n 3, 1) := by decide +kernel
theorem dX12_year_180 : decode cX12_year 180 = .ok (.invokevirtual 132, 3) := by decide +kernel
theorem dX12_year_183 : decode cX12_year 183 = .ok (.aload_n 0, 1) := by decide +kernel
theorem dX12_year_184 : decode cX12_year 184 = .ok (.getfield 3, 3) := by decide +kernel
theorem dX12_year_187 : decode cX12_year 187 = .ok (.iconst 0, 1) := by decide +kernel
theorem dX12_year_188 : decode cX12_year 188 = .ok (.iaload, 1) := by decide +kernel
theorem dX12_year_189 : decode cX12_year 189 = .ok (.if_icmp .eq 6, 3) := by decide +kernel
theorem dX12_year_192 : decode cX12_year 192 = .ok (.goto 40, 3) := by decide +kernel
theorem dX12_year_195 : decode cX12_year 195 = .ok (.aload_n 0, 1) := by decide +kernel
theorem dX12_year_196 : decode cX12_year 196 = .ok (.getfield 3, 3) := by decide +kernel
theorem dX12_year_199 : decode cX12_year 199 = .ok (.bipush 30, 2) := by decide +kernel
theorem dX12_year_201 : decode cX12_year 201 = .ok (.aload_n 0, 1) := by decide +kernel
theorem dX12_year_202 : decode cX12_year 202 = .ok (.getfield 3, 3) := by decide +kernel
theorem dX12_year_205 : decode cX12_year 205 = .ok (.iconst 0, 1) := by decide +kernel
theorem dX12_year_206 : decode cX12_year 206 = .ok (.iaload, 1) := by decide +kernel
theorem dX12_year_207 : decode cX12_year 207 = .ok (.iadd, 1) := by decide +kernel
theorem dX12_year_208 : decode cX12_year 208 = .ok (.dup2, 1) := by decide +kernel
theorem dX12_year_209 : decode cX12_year 209 = .ok (.iaload, 1) := by decide +kernel
theorem dX12_year_210 : decode cX12_year 210 = .ok (.aload_n 0, 1) := by decide +kernel
theorem dX12_year_211 : decode cX12_year 211 = .ok (.iload_n 3, 1) := by decide +kernel
theorem dX12_year_212 : decode cX12_year 212 = .ok (.aload_n 0, 1) := by decide +kernel
theorem dX12_year_213 : decode cX12_year 213 = .ok (.getfield 3, 3) := by decide +kernel
theorem dX12_year_216 : decode cX12_year 216 = .ok (.iconst 0, 1) := by decide +kernel
theorem dX12_year_217 : decode cX12_year 217 = .ok (.iaload, 1) := by decide +kernel
theorem dX12_year_218 : decode cX12_year 218 = .ok (.invokevirtual 212, 3) := by decide +kernel
theorem dX12_year_221 : decode cX12_year 221 = .ok (.iadd, 1) := by decide +kernel
theorem dX12_year_222 : decode cX12_year 222 = .ok (.iastore, 1) := by decide +kernel
theorem dX12_year_223 : decode cX12_year 223 = .ok (.aload_n 0, 1) := by decide +kernel
theorem dX12_year_224 : decode cX12_year 224 = .ok (.iload_n 3, 1) := by decide +kernel
theorem dX12_year_225 : decode cX12_year 225 = .ok (.iconst 2, 1) := by decide +kernel
theorem dX12_year_226 : decode cX12_year 226 = .ok (.invokevirtual 275, 3) := by decide +kernel
theorem dX12_year_229 : decode cX12_year 229 = .ok (.iinc 2 1, 3) := by decide +kernel
theorem dX12_year_232 : decode cX12_year 232 = .ok (.iinc 3 1, 3) := by decide +kernel
theorem dX12_year_235 : decode cX12_year 235 = .ok (.goto (-76), 3) := by decide +kernel
theorem dX12_year_238 : decode cX12_year 238 = .ok (.iload_n 2, 1) := by decide +kernel
theorem dX12_year_239 : decode cX12_year 239 = .ok (.ireturn, 1) := by decide +kernel
theorem dX12_saysOf_0 : decode cX12_saysOf 0 = .ok (.aload_n 0, 1) := by decide +kernel
theorem dX12_saysOf_1 : decode cX12_saysOf 1 = .ok (.getfield 32, 3) := by decide +kernel
theorem dX12_saysOf_4 : decode cX12_saysOf 4 = .ok (.iconst 0, 1) := by decide +kernel
theorem dX12_saysOf_5 : decode cX12_saysOf 5 = .ok (.aload_n 0, 1) := by decide +kernel
theorem dX12_saysOf_6 : decode cX12_saysOf 6 = .ok (.iload_n 1, 1) := by decide +kernel
theorem dX12_saysOf_7 : decode cX12_saysOf 7 = .ok (.aload_n 0, 1) := by decide +kernel
theorem dX12_saysOf_8 : decode cX12_saysOf 8 = .ok (.getfield 3, 3) := by decide +kernel
theorem dX12_saysOf_11 : decode cX12_saysOf 11 = .ok (.iconst 0, 1) := by decide +kernel
theorem dX12_saysOf_12 : decode cX12_saysOf 12 = .ok (.iaload, 1) := by decide +kernel
theorem dX12_saysOf_13 : decode cX12_saysOf 13 = .ok (.invokevirtual 230, 3) := by decide +kernel
theorem dX12_saysOf_16 : decode cX12_saysOf 16 = .ok (.i2l, 1) := by decide +kernel
theorem dX12_saysOf_17 : decode cX12_saysOf 17 = .ok (.lastore, 1) := by decide +kernel
theorem dX12_saysOf_18 : decode cX12_saysOf 18 = .ok (.aload_n 0, 1) := by decide +kernel
theorem dX12_saysOf_19 : decode cX12_saysOf 19 = .ok (.getfield 32, 3) := by decide +kernel
theorem dX12_saysOf_22 : decode cX12_saysOf 22 = .ok (.iconst 1, 1) := by decide +kernel
theorem dX12_saysOf_23 : decode cX12_saysOf 23 = .ok (.aload_n 0, 1) := by decide +kernel
theorem dX12_saysOf_24 : decode cX12_saysOf 24 = .ok (.iload_n 1, 1) := by decide +kernel
theorem dX12_saysOf_25 : decode cX12_saysOf 25 = .ok (.invokevirtual 266, 3) := by decide +kernel
theorem dX12_saysOf_28 : decode cX12_saysOf 28 = .ok (.i2l, 1) := by decide +kernel
theorem dX12_saysOf_29 : decode cX12_saysOf 29 = .ok (.lastore, 1) := by decide +kernel
theorem dX12_saysOf_30 : decode cX12_saysOf 30 = .ok (.aload_n 0, 1) := by decide +kernel
theorem dX12_saysOf_31 : decode cX12_saysOf 31 = .ok (.getfield 32, 3) := by decide +kernel
theorem dX12_saysOf_34 : decode cX12_saysOf 34 = .ok (.iconst 2, 1) := by decide +kernel
theorem dX12_saysOf_35 : decode cX12_saysOf 35 = .ok (.aload_n 0, 1) := by decide +kernel
theorem dX12_saysOf_36 : decode cX12_saysOf 36 = .ok (.iload_n 1, 1) := by decide +kernel
theorem dX12_saysOf_37 : decode cX12_saysOf 37 = .ok (.aload_n 0, 1) := by decide +kernel
theorem dX12_saysOf_38 : decode cX12_saysOf 38 = .ok (.getfield 3, 3) := by decide +kernel
theorem dX12_saysOf_41 : decode cX12_saysOf 41 = .ok (.iconst 1, 1) := by decide +kernel
theorem dX12_saysOf_42 : decode cX12_saysOf 42 = .ok (.iaload, 1) := by decide +kernel
theorem dX12_saysOf_43 : decode cX12_saysOf 43 = .ok (.invokevirtual 269, 3) := by decide +kernel
theorem dX12_saysOf_46 : decode cX12_saysOf 46 = .ok (.i2l, 1) := by decide +kernel
theorem dX12_saysOf_47 : decode cX12_saysOf 47 = .ok (.lastore, 1) := by decide +kernel
theorem dX12_saysOf_48 : decode cX12_saysOf 48 = .ok (.aload_n 0, 1) := by decide +kernel
theorem dX12_saysOf_49 : decode cX12_saysOf 49 = .ok (.getfield 32, 3) := by decide +kernel
theorem dX12_saysOf_52 : decode cX12_saysOf 52 = .ok (.iconst 3, 1) := by decide +kernel
theorem dX12_saysOf_53 : decode cX12_saysOf 53 = .ok (.aload_n 0, 1) := by decide +kernel
theorem dX12_saysOf_54 : decode cX12_saysOf 54 = .ok (.iload_n 1, 1) := by decide +kernel
theorem dX12_saysOf_55 : decode cX12_saysOf 55 = .ok (.invokevirtual 258, 3) := by decide +kernel
theorem dX12_saysOf_58 : decode cX12_saysOf 58 = .ok (.i2l, 1) := by decide +kernel
theorem dX12_saysOf_59 : decode cX12_saysOf 59 = .ok (.lastore, 1) := by decide +kernel
theorem dX12_saysOf_60 : decode cX12_saysOf 60 = .ok (.aload_n 0, 1) := by decide +kernel
theorem dX12_saysOf_61 : decode cX12_saysOf 61 = .ok (.getfield 32, 3) := by decide +kernel
theorem dX12_saysOf_64 : decode cX12_saysOf 64 = .ok (.iconst 4, 1) := by decide +kernel
theorem dX12_saysOf_65 : decode cX12_saysOf 65 = .ok (.aload_n 0, 1) := by decide +kernel
theorem dX12_saysOf_66 : decode cX12_saysOf 66 = .ok (.iload_n 1, 1) := by decide +kernel
theorem dX12_saysOf_67 : decode cX12_saysOf 67 = .ok (.bipush 6, 2) := by decide +kernel
theorem dX12_saysOf_69 : decode cX12_saysOf 69 = .ok (.aload_n 0, 1) := by decide +kernel
theorem dX12_saysOf_70 : decode cX12_saysOf 70 = .ok (.getfield 3, 3) := by decide +kernel
theorem dX12_saysOf_73 : decode cX12_saysOf 73 = .ok (.iconst 0, 1) := by decide +kernel
theorem dX12_saysOf_74 : decode cX12_saysOf 74 = .ok (.iaload, 1) := by decide +kernel
theorem dX12_saysOf_75 : decode cX12_saysOf 75 = .ok (.iadd, 1) := by decide +kernel
theorem dX12_saysOf_76 : decode cX12_saysOf 76 = .ok (.invokevirtual 115, 3) := by decide +kernel
theorem dX12_saysOf_79 : decode cX12_saysOf 79 = .ok (.i2l, 1) := by decide +kernel
theorem dX12_saysOf_80 : decode cX12_saysOf 80 = .ok (.lastore, 1) := by decide +kernel
theorem dX12_saysOf_81 : decode cX12_saysOf 81 = .ok (.aload_n 0, 1) := by decide +kernel
theorem dX12_saysOf_82 : decode cX12_saysOf 82 = .ok (.getfield 32, 3) := by decide +kernel
theorem dX12_saysOf_85 : decode cX12_saysOf 85 = .ok (.iconst 5, 1) := by decide +kernel
theorem dX12_saysOf_86 : decode cX12_saysOf 86 = .ok (.iload_n 1, 1) := by decide +kernel
theorem dX12_saysOf_87 : decode cX12_saysOf 87 = .ok (.i2l, 1) := by decide +kernel
theorem dX12_saysOf_88 : decode cX12_saysOf 88 = .ok (.lastore, 1) := by decide +kernel
theorem dX12_saysOf_89 : decode cX12_saysOf 89 = .ok (.aload_n 0, 1) := by decide +kernel
theorem dX12_saysOf_90 : decode cX12_saysOf 90 = .ok (.invokevirtual 316, 3) := by decide +kernel
theorem dX12_saysOf_93 : decode cX12_saysOf 93 = .ok (.lreturn, 1) := by decide +kernel
theorem dX12_says_0 : decode cX12_says 0 = .ok (.aload_n 0, 1) := by decide +kernel
theorem dX12_says_1 : decode cX12_says 1 = .ok (.getfield 3, 3) := by decide +kernel
theorem dX12_says_4 : decode cX12_says 4 = .ok (.bipush 8, 2) := by decide +kernel
theorem dX12_says_6 : decode cX12_says 6 = .ok (.iaload, 1) := by decide +kernel
theorem dX12_says_7 : decode cX12_says 7 = .ok (.ifCond .le 19, 3) := by decide +kernel
theorem dX12_says_10 : decode cX12_says 10 = .ok (.aload_n 0, 1) := by decide +kernel
theorem dX12_says_11 : decode cX12_says 11 = .ok (.iload_n 1, 1) := by decide +kernel
theorem dX12_says_12 : decode cX12_says 12 = .ok (.invokevirtual 261, 3) := by decide +kernel
theorem dX12_says_15 : decode cX12_says 15 = .ok (.ifCond .eq 11, 3) := by decide +kernel
theorem dX12_says_18 : decode cX12_says 18 = .ok (.aload_n 0, 1) := by decide +kernel
theorem dX12_says_19 : decode cX12_says 19 = .ok (.iload_n 1, 1) := by decide +kernel
theorem dX12_says_20 : decode cX12_says 20 = .ok (.invokevirtual 320, 3) := by decide +kernel
theorem dX12_says_23 : decode cX12_says 23 = .ok (.goto 6, 3) := by decide +kernel
theorem dX12_says_26 : decode cX12_says 26 = .ok (.ldc2_w 324, 3) := by decide +kernel
theorem dX12_says_29 : decode cX12_says 29 = .ok (.lreturn, 1) := by decide +kernel
theorem dX12_isGoal_0 : decode cX12_isGoal 0 = .ok (.iload_n 0, 1) := by decide +kernel
theorem dX12_isGoal_1 : decode cX12_isGoal 1 = .ok (.i2l, 1) := by decide +kernel
theorem dX12_isGoal_2 : decode cX12_isGoal 2 = .ok (.ldc2_w 326, 3) := by decide +kernel
theorem dX12_isGoal_5 : decode cX12_isGoal 5 = .ok (.ldc2_w 328, 3) := by decide +kernel
theorem dX12_isGoal_8 : decode cX12_isGoal 8 = .ok (.invokestatic 68, 3) := by decide +kernel
theorem dX12_isGoal_11 : decode cX12_isGoal 11 = .ok (.ireturn, 1) := by decide +kernel
theorem dX12_byPolicy_0 : decode cX12_byPolicy 0 = .ok (.aload_n 0, 1) := by decide +kernel
theorem dX12_byPolicy_1 : decode cX12_byPolicy 1 = .ok (.getfield 3, 3) := by decide +kernel
theorem dX12_byPolicy_4 : decode cX12_byPolicy 4 = .ok (.bipush 8, 2) := by decide +kernel
theorem dX12_byPolicy_6 : decode cX12_byPolicy 6 = .ok (.iaload, 1) := by decide +kernel
theorem dX12_byPolicy_7 : decode cX12_byPolicy 7 = .ok (.ifCond .eq 10, 3) := by decide +kernel
theorem dX12_byPolicy_10 : decode cX12_byPolicy 10 = .ok (.iload_n 1, 1) := by decide +kernel
theorem dX12_byPolicy_11 : decode cX12_byPolicy 11 = .ok (.invokestatic 330, 3) := by decide +kernel
theorem dX12_byPolicy_14 : decode cX12_byPolicy 14 = .ok (.ifCond .ne 5, 3) := by decide +kernel
theorem dX12_byPolicy_17 : decode cX12_byPolicy 17 = .ok (.iconst (-1), 1) := by decide +kernel
theorem dX12_byPolicy_18 : decode cX12_byPolicy 18 = .ok (.ireturn, 1) := by decide +kernel
theorem dX12_byPolicy_19 : decode cX12_byPolicy 19 = .ok (.aload_n 0, 1) := by decide +kernel
theorem dX12_byPolicy_20 : decode cX12_byPolicy 20 = .ok (.iconst 0, 1) := by decide +kernel
theorem dX12_byPolicy_21 : decode cX12_byPolicy 21 = .ok (.bipush 11, 2) := by decide +kernel
theorem dX12_byPolicy_23 : decode cX12_byPolicy 23 = .ok (.invokevirtual 64, 3) := by decide +kernel
theorem dX12_byPolicy_26 : decode cX12_byPolicy 26 = .ok (.iconst 0, 1) := by decide +kernel
theorem dX12_byPolicy_27 : decode cX12_byPolicy 27 = .ok (.istore_n 2, 1) := by decide +kernel
theorem dX12_byPolicy_28 : decode cX12_byPolicy 28 = .ok (.iconst 0, 1) := by decide +kernel
theorem dX12_byPolicy_29 : decode cX12_byPolicy 29 = .ok (.istore_n 3, 1) := by decide +kernel
theorem dX12_byPolicy_30 : decode cX12_byPolicy 30 = .ok (.iload_n 3, 1) := by decide +kernel
theorem dX12_byPolicy_31 : decode cX12_byPolicy 31 = .ok (.iconst (-1), 1) := by decide +kernel
theorem dX12_byPolicy_32 : decode cX12_byPolicy 32 = .ok (.if_icmp .eq 116, 3) := by decide +kernel
theorem dX12_byPolicy_35 : decode cX12_byPolicy 35 = .ok (.aload_n 0, 1) := by decide +kernel
theorem dX12_byPolicy_36 : decode cX12_byPolicy 36 = .ok (.lconst 0, 1) := by decide +kernel
theorem dX12_byPolicy_37 : decode cX12_byPolicy 37 = .ok (.lconst 0, 1) := by decide +kernel
theorem dX12_byPolicy_38 : decode cX12_byPolicy 38 = .ok (.invokevirtual 246, 3) := by decide +kernel
theorem dX12_byPolicy_41 : decode cX12_byPolicy 41 = .ok (.iload_n 1, 1) := by decide +kernel
theorem dX12_byPolicy_42 : decode cX12_byPolicy 42 = .ok (.if_icmp .ge 106, 3) := by decide +kernel
theorem dX12_byPolicy_45 : decode cX12_byPolicy 45 = .ok (.iconst (-1), 1) := by decide +kernel
theorem dX12_byPolicy_46 : decode cX12_byPolicy 46 = .ok (.istore_n 3, 1) := by decide +kernel
theorem dX12_byPolicy_47 : decode cX12_byPolicy 47 = .ok (.lconst 0, 1) := by decide +kernel
theorem dX12_byPolicy_48 : decode cX12_byPolicy 48 = .ok (.lstore 4, 2) := by decide +kernel
theorem dX12_byPolicy_50 : decode cX12_byPolicy 50 = .ok (.iconst 0, 1) := by decide +kernel
theorem dX12_byPolicy_51 : decode cX12_byPolicy 51 = .ok (.istore 6, 2) := by decide +kernel
theorem dX12_byPolicy_53 : decode cX12_byPolicy 53 = .ok (.iload 6, 2) := by decide +kernel
theorem dX12_byPolicy_55 : decode cX12_byPolicy 55 = .ok (.aload_n 0, 1) := by decide +kernel
theorem dX12_byPolicy_56 : decode cX12_byPolicy 56 = .ok (.getfield 3, 3) := by decide +kernel
theorem dX12_byPolicy_59 : decode cX12_byPolicy 59 = .ok (.bipush 7, 2) := by decide +kernel
theorem dX12_byPolicy_61 : decode cX12_byPolicy 61 = .ok (.iaload, 1) := by decide +kernel
theorem dX12_byPolicy_62 : decode cX12_byPolicy 62 = .ok (.if_icmp .ge 67, 3) := by decide +kernel
theorem dX12_byPolicy_65 : decode cX12_byPolicy 65 = .ok (.aload_n 0, 1) := by decide +kernel
theorem dX12_byPolicy_66 : decode cX12_byPolicy 66 = .ok (.iload 6, 2) := by decide +kernel
theorem dX12_byPolicy_68 : decode cX12_byPolicy 68 = .ok (.invokevirtual 261, 3) := by decide +kernel
theorem dX12_byPolicy_71 : decode cX12_byPolicy 71 = .ok (.ifCond .eq 52, 3) := by decide +kernel
theorem dX12_byPolicy_74 : decode cX12_byPolicy 74 = .ok (.aload_n 0, 1) := by decide +kernel
theorem dX12_byPolicy_75 : decode cX12_byPolicy 75 = .ok (.iload 6, 2) := by decide +kernel
theorem dX12_byPolicy_77 : decode cX12_byPolicy 77 = .ok (.aload_n 0, 1) := by decide +kernel
theorem dX12_byPolicy_78 : decode cX12_byPolicy 78 = .ok (.getfield 3, 3) := by decide +kernel
theorem dX12_byPolicy_81 : decode cX12_byPolicy 81 = .ok (.iconst 1, 1) := by decide +kernel
theorem dX12_byPolicy_82 : decode cX12_byPolicy 82 = .ok (.iaload, 1) := by decide +kernel
theorem dX12_byPolicy_83 : decode cX12_byPolicy 83 = .ok (.invokevirtual 269, 3) := by decide +kernel
theorem dX12_byPolicy_86 : decode cX12_byPolicy 86 = .ok (.ifCond .gt 6, 3) := by decide +kernel
theorem dX12_byPolicy_89 : decode cX12_byPolicy 89 = .ok (.goto 34, 3) := by decide +kernel
theorem dX12_byPolicy_92 : decode cX12_byPolicy 92 = .ok (.aload_n 0, 1) := by decide +kernel
theorem dX12_byPolicy_93 : decode cX12_byPolicy 93 = .ok (.iload 6, 2) := by decide +kernel
theorem dX12_byPolicy_95 : decode cX12_byPolicy 95 = .ok (.invokevirtual 320, 3) := by decide +kernel
theorem dX12_byPolicy_98 : decode cX12_byPolicy 98 = .ok (.lstore 7, 2) := by decide +kernel
theorem dX12_byPolicy_100 : decode cX12_byPolicy 100 = .ok (.iload_n 3, 1) := by decide +kernel
theorem dX12_byPolicy_101 : decode cX12_byPolicy 101 = .ok (.iconst (-1), 1) := by decide +kernel
theorem dX12_byPolicy_102 : decode cX12_byPolicy 102 = .ok (.if_icmp .eq 14, 3) := by decide +kernel
theorem dX12_byPolicy_105 : decode cX12_byPolicy 105 = .ok (.lload 7, 2) := by decide +kernel
theorem dX12_byPolicy_107 : decode cX12_byPolicy 107 = .ok (.lload 4, 2) := by decide +kernel
theorem dX12_byPolicy_109 : decode cX12_byPolicy 109 = .ok (.lcmp, 1) := by decide +kernel
theorem dX12_byPolicy_110 : decode cX12_byPolicy 110 = .ok (.ifCond .gt 6, 3) := by decide +kernel
theorem dX12_byPolicy_113 : decode cX12_byPolicy 113 = .ok (.goto 10, 3) := by decide +kernel
theorem dX12_byPolicy_116 : decode cX12_byPolicy 116 = .ok (.iload 6, 2) := by decide +kernel
theorem dX12_byPolicy_118 : decode cX12_byPolicy 118 = .ok (.istore_n 3, 1) := by decide +kernel
theorem dX12_byPolicy_119 : decode cX12_byPolicy 119 = .ok (.lload 7, 2) := by decide +kernel
theorem dX12_byPolicy_121 : decode cX12_byPolicy 121 = .ok (.lstore 4, 2) := by decide +kernel
theorem dX12_byPolicy_123 : decode cX12_byPolicy 123 = .ok (.iinc 6 1, 3) := by decide +kernel
theorem dX12_byPolicy_126 : decode cX12_byPolicy 126 = .ok (.goto (-73), 3) := by decide +kernel
theorem dX12_byPolicy_129 : decode cX12_byPolicy 129 = .ok (.iload_n 3, 1) := by decide +kernel
theorem dX12_byPolicy_130 : decode cX12_byPolicy 130 = .ok (.iconst (-1), 1) := by decide +kernel
theorem dX12_byPolicy_131 : decode cX12_byPolicy 131 = .ok (.if_icmp .ne 6, 3) := by decide +kernel
theorem dX12_byPolicy_134 : decode cX12_byPolicy 134 = .ok (.goto (-104), 3) := by decide +kernel
theorem dX12_byPolicy_137 : decode cX12_byPolicy 137 = .ok (.aload_n 0, 1) := by decide +kernel
theorem dX12_byPolicy_138 : decode cX12_byPolicy 138 = .ok (.iload_n 3, 1) := by decide +kernel
theorem dX12_byPolicy_139 : decode cX12_byPolicy 139 = .ok (.invokevirtual 284, 3) := by decide +kernel
theorem dX12_byPolicy_142 : decode cX12_byPolicy 142 = .ok (.iinc 2 1, 3) := by decide +kernel
theorem dX12_byPolicy_145 : decode cX12_byPolicy 145 = .ok (.goto (-115), 3) := by decide +kernel
theorem dX12_byPolicy_148 : decode cX12_byPolicy 148 = .ok (.iload_n 2, 1) := by decide +kernel
theorem dX12_byPolicy_149 : decode cX12_byPolicy 149 = .ok (.ifCond .le 9, 3) := by decide +kernel
theorem dX12_byPolicy_152 : decode cX12_byPolicy 152 = .ok (.aload_n 0, 1) := by decide +kernel
theorem dX12_byPolicy_153 : decode cX12_byPolicy 153 = .ok (.bipush 11, 2) := by decide +kernel
theorem dX12_byPolicy_155 : decode cX12_byPolicy 155 = .ok (.invokevirtual 72, 3) := by decide +kernel
theorem dX12_byPolicy_158 : decode cX12_byPolicy 158 = .ok (.iload_n 2, 1) := by decide +kernel
theorem dX12_byPolicy_159 : decode cX12_byPolicy 159 = .ok (.ireturn, 1) := by decide +kernel
theorem dX12_laySome_0 : decode cX12_laySome 0 = .ok (.aload_n 0, 1) := by decide +kernel
theorem dX12_laySome_1 : decode cX12_laySome 1 = .ok (.iconst 0, 1) := by decide +kernel
theorem dX12_laySome_2 : decode cX12_laySome 2 = .ok (.putfield 333, 3) := by decide +kernel
theorem dX12_laySome_5 : decode cX12_laySome 5 = .ok (.iconst 0, 1) := by decide +kernel
theorem dX12_laySome_6 : decode cX12_laySome 6 = .ok (.istore_n 2, 1) := by decide +kernel
theorem dX12_laySome_7 : decode cX12_laySome 7 = .ok (.iload_n 2, 1) := by decide +kernel
theorem dX12_laySome_8 : decode cX12_laySome 8 = .ok (.aload_n 0, 1) := by decide +kernel
theorem dX12_laySome_9 : decode cX12_laySome 9 = .ok (.getfield 3, 3) := by decide +kernel
theorem dX12_laySome_12 : decode cX12_laySome 12 = .ok (.bipush 7, 2) := by decide +kernel
theorem dX12_laySome_14 : decode cX12_laySome 14 = .ok (.iaload, 1) := by decide +kernel
theorem dX12_laySome_15 : decode cX12_laySome 15 = .ok (.if_icmp .ge 48, 3) := by decide +kernel
theorem dX12_laySome_18 : decode cX12_laySome 18 = .ok (.aload_n 0, 1) := by decide +kernel
theorem dX12_laySome_19 : decode cX12_laySome 19 = .ok (.getfield 333, 3) := by decide +kernel
theorem dX12_laySome_22 : decode cX12_laySome 22 = .ok (.iload_n 1, 1) := by decide +kernel
theorem dX12_laySome_23 : decode cX12_laySome 23 = .ok (.if_icmp .ge 40, 3) := by decide +kernel
theorem dX12_laySome_26 : decode cX12_laySome 26 = .ok (.aload_n 0, 1) := by decide +kernel
theorem dX12_laySome_27 : decode cX12_laySome 27 = .ok (.iload_n 2, 1) := by decide +kernel
theorem dX12_laySome_28 : decode cX12_laySome 28 = .ok (.invokevirtual 261, 3) := by decide +kernel
theorem dX12_laySome_31 : decode cX12_laySome 31 = .ok (.ifCond .ne 6, 3) := by decide +kernel
theorem dX12_laySome_34 : decode cX12_laySome 34 = .ok (.goto 23, 3) := by decide +kernel
theorem dX12_laySome_37 : decode cX12_laySome 37 = .ok (.aload_n 0, 1) := by decide +kernel
theorem dX12_laySome_38 : decode cX12_laySome 38 = .ok (.getfield 48, 3) := by decide +kernel
theorem dX12_laySome_41 : decode cX12_laySome 41 = .ok (.aload_n 0, 1) := by decide +kernel
theorem dX12_laySome_42 : decode cX12_laySome 42 = .ok (.getfield 333, 3) := by decide +kernel
theorem dX12_laySome_45 : decode cX12_laySome 45 = .ok (.iload_n 2, 1) := by decide +kernel
theorem dX12_laySome_46 : decode cX12_laySome 46 = .ok (.iastore, 1) := by decide +kernel
theorem dX12_laySome_47 : decode cX12_laySome 47 = .ok (.aload_n 0, 1) := by decide +kernel
theorem dX12_laySome_48 : decode cX12_laySome 48 = .ok (.dup, 1) := by decide +kernel
theorem dX12_laySome_49 : decode cX12_laySome 49 = .ok (.getfield 333, 3) := by decide +kernel
theorem dX12_laySome_52 : decode cX12_laySome 52 = .ok (.iconst 1, 1) := by decide +kernel
theorem dX12_laySome_53 : decode cX12_laySome 53 = .ok (.iadd, 1) := by decide +kernel
theorem dX12_laySome_54 : decode cX12_laySome 54 = .ok (.putfield 333, 3) := by decide +kernel
theorem dX12_laySome_57 : decode cX12_laySome 57 = .ok (.iinc 2 1, 3) := by decide +kernel
theorem dX12_laySome_60 : decode cX12_laySome 60 = .ok (.goto (-53), 3) := by decide +kernel
theorem dX12_laySome_63 : decode cX12_laySome 63 = .ok (.return_, 1) := by decide +kernel
theorem dX12_bits_0 : decode cX12_bits 0 = .ok (.iconst 0, 1) := by decide +kernel
theorem dX12_bits_1 : decode cX12_bits 1 = .ok (.istore_n 1, 1) := by decide +kernel
theorem dX12_bits_2 : decode cX12_bits 2 = .ok (.iconst 0, 1) := by decide +kernel
theorem dX12_bits_3 : decode cX12_bits 3 = .ok (.istore_n 2, 1) := by decide +kernel
theorem dX12_bits_4 : decode cX12_bits 4 = .ok (.iload_n 2, 1) := by decide +kernel
theorem dX12_bits_5 : decode cX12_bits 5 = .ok (.bipush 10, 2) := by decide +kernel
theorem dX12_bits_7 : decode cX12_bits 7 = .ok (.if_icmp .ge 17, 3) := by decide +kernel
theorem dX12_bits_10 : decode cX12_bits 10 = .ok (.iload_n 1, 1) := by decide +kernel
theorem dX12_bits_11 : decode cX12_bits 11 = .ok (.iload_n 0, 1) := by decide +kernel
theorem dX12_bits_12 : decode cX12_bits 12 = .ok (.iload_n 2, 1) := by decide +kernel
theorem dX12_bits_13 : decode cX12_bits 13 = .ok (.ishr, 1) := by decide +kernel
theorem dX12_bits_14 : decode cX12_bits 14 = .ok (.iconst 1, 1) := by decide +kernel
theorem dX12_bits_15 : decode cX12_bits 15 = .ok (.iand, 1) := by decide +kernel
theorem dX12_bits_16 : decode cX12_bits 16 = .ok (.iadd, 1) := by decide +kernel
theorem dX12_bits_17 : decode cX12_bits 17 = .ok (.istore_n 1, 1) := by decide +kernel
theorem dX12_bits_18 : decode cX12_bits 18 = .ok (.iinc 2 1, 3) := by decide +kernel
theorem dX12_bits_21 : decode cX12_bits 21 = .ok (.goto (-17), 3) := by decide +kernel
theorem dX12_bits_24 : decode cX12_bits 24 = .ok (.iload_n 1, 1) := by decide +kernel
theorem dX12_bits_25 : decode cX12_bits 25 = .ok (.ireturn, 1) := by decide +kernel
theorem dX12_deadOf_0 : decode cX12_deadOf 0 = .ok (.iconst 0, 1) := by decide +kernel
theorem dX12_deadOf_1 : decode cX12_deadOf 1 = .ok (.istore_n 2, 1) := by decide +kernel
theorem dX12_deadOf_2 : decode cX12_deadOf 2 = .ok (.iconst 0, 1) := by decide +kernel
theorem dX12_deadOf_3 : decode cX12_deadOf 3 = .ok (.istore_n 3, 1) := by decide +kernel
theorem dX12_deadOf_4 : decode cX12_deadOf 4 = .ok (.iload_n 3, 1) := by decide +kernel
theorem dX12_deadOf_5 : decode cX12_deadOf 5 = .ok (.aload_n 0, 1) := by decide +kernel
theorem dX12_deadOf_6 : decode cX12_deadOf 6 = .ok (.getfield 333, 3) := by decide +kernel
theorem dX12_deadOf_9 : decode cX12_deadOf 9 = .ok (.if_icmp .ge 31, 3) := by decide +kernel
theorem dX12_deadOf_12 : decode cX12_deadOf 12 = .ok (.iload_n 1, 1) := by decide +kernel
theorem dX12_deadOf_13 : decode cX12_deadOf 13 = .ok (.iload_n 3, 1) := by decide +kernel
theorem dX12_deadOf_14 : decode cX12_deadOf 14 = .ok (.ishr, 1) := by decide +kernel
theorem dX12_deadOf_15 : decode cX12_deadOf 15 = .ok (.iconst 1, 1) := by decide +kernel
theorem dX12_deadOf_16 : decode cX12_deadOf 16 = .ok (.iand, 1) := by decide +kernel
theorem dX12_deadOf_17 : decode cX12_deadOf 17 = .ok (.iconst 1, 1) := by decide +kernel
theorem dX12_deadOf_18 : decode cX12_deadOf 18 = .ok (.if_icmp .ne 16, 3) := by decide +kernel
theorem dX12_deadOf_21 : decode cX12_deadOf 21 = .ok (.iload_n 2, 1) := by decide +kernel
theorem dX12_deadOf_22 : decode cX12_deadOf 22 = .ok (.aload_n 0, 1) := by decide +kernel
theorem dX12_deadOf_23 : decode cX12_deadOf 23 = .ok (.aload_n 0, 1) := by decide +kernel
theorem dX12_deadOf_24 : decode cX12_deadOf 24 = .ok (.getfield 48, 3) := by decide +kernel
theorem dX12_deadOf_27 : decode cX12_deadOf 27 = .ok (.iload_n 3, 1) := by decide +kernel
theorem dX12_deadOf_28 : decode cX12_deadOf 28 = .ok (.iaload, 1) := by decide +kernel
theorem dX12_deadOf_29 : decode cX12_deadOf 29 = .ok (.invokevirtual 266, 3) := by decide +kernel
theorem dX12_deadOf_32 : decode cX12_deadOf 32 = .ok (.iadd, 1) := by decide +kernel
theorem dX12_deadOf_33 : decode cX12_deadOf 33 = .ok (.istore_n 2, 1) := by decide +kernel
theorem dX12_deadOf_34 : decode cX12_deadOf 34 = .ok (.iinc 3 1, 3) := by decide +kernel
theorem dX12_deadOf_37 : decode cX12_deadOf 37 = .ok (.goto (-33), 3) := by decide +kernel
theorem dX12_deadOf_40 : decode cX12_deadOf 40 = .ok (.iload_n 2, 1) := by decide +kernel
theorem dX12_deadOf_41 : decode cX12_deadOf 41 = .ok (.ireturn, 1) := by decide +kernel
theorem dX12_contractsOf_0 : decode cX12_contractsOf 0 = .ok (.lconst 0, 1) := by decide +kernel
theorem dX12_contractsOf_1 : decode cX12_contractsOf 1 = .ok (.lstore_n 2, 1) := by decide +kernel
theorem dX12_contractsOf_2 : decode cX12_contractsOf 2 = .ok (.iconst 0, 1) := by decide +kernel
theorem dX12_contractsOf_3 : decode cX12_contractsOf 3 = .ok (.istore 4, 2) := by decide +kernel
theorem dX12_contractsOf_5 : decode cX12_contractsOf 5 = .ok (.iload 4, 2) := by decide +kernel
theorem dX12_contractsOf_7 : decode cX12_contractsOf 7 = .ok (.aload_n 0, 1) := by decide +kernel
theorem dX12_contractsOf_8 : decode cX12_contractsOf 8 = .ok (.getfield 333, 3) := by decide +kernel
theorem dX12_contractsOf_11 : decode cX12_contractsOf 11 = .ok (.if_icmp .ge 31, 3) := by decide +kernel
theorem dX12_contractsOf_14 : decode cX12_contractsOf 14 = .ok (.iload_n 1, 1) := by decide +kernel
theorem dX12_contractsOf_15 : decode cX12_contractsOf 15 = .ok (.iload 4, 2) := by decide +kernel
theorem dX12_contractsOf_17 : decode cX12_contractsOf 17 = .ok (.ishr, 1) := by decide +kernel
theorem dX12_contractsOf_18 : decode cX12_contractsOf 18 = .ok (.iconst 1, 1) := by decide +kernel
theorem dX12_contractsOf_19 : decode cX12_contractsOf 19 = .ok (.iand, 1) := by decide +kernel
theorem dX12_contractsOf_20 : decode cX12_contractsOf 20 = .ok (.iconst 1, 1) := by decide +kernel
theorem dX12_contractsOf_21 : decode cX12_contractsOf 21 = .ok (.if_icmp .ne 15, 3) := by decide +kernel
theorem dX12_contractsOf_24 : decode cX12_contractsOf 24 = .ok (.lload_n 2, 1) := by decide +kernel
theorem dX12_contractsOf_25 : decode cX12_contractsOf 25 = .ok (.lconst 1, 1) := by decide +kernel
theorem dX12_contractsOf_26 : decode cX12_contractsOf 26 = .ok (.aload_n 0, 1) := by decide +kernel
theorem dX12_contractsOf_27 : decode cX12_contractsOf 27 = .ok (.getfield 48, 3) := by decide +kernel
theorem dX12_contractsOf_30 : decode cX12_contractsOf 30 = .ok (.iload 4, 2) := by decide +kernel
theorem dX12_contractsOf_32 : decode cX12_contractsOf 32 = .ok (.iaload, 1) := by decide +kernel
theorem dX12_contractsOf_33 : decode cX12_contractsOf 33 = .ok (.lshl, 1) := by decide +kernel
theorem dX12_contractsOf_34 : decode cX12_contractsOf 34 = .ok (.lor, 1) := by decide +kernel
theorem dX12_contractsOf_35 : decode cX12_contractsOf 35 = .ok (.lstore_n 2, 1) := by decide +kernel
theorem dX12_contractsOf_36 : decode cX12_contractsOf 36 = .ok (.iinc 4 1, 3) := by decide +kernel
theorem dX12_contractsOf_39 : decode cX12_contractsOf 39 = .ok (.goto (-34), 3) := by decide +kernel
theorem dX12_contractsOf_42 : decode cX12_contractsOf 42 = .ok (.lload_n 2, 1) := by decide +kernel
theorem dX12_contractsOf_43 : decode cX12_contractsOf 43 = .ok (.lreturn, 1) := by decide +kernel
theorem dX12_set_0 : decode cX12_set 0 = .ok (.iload_n 1, 1) := by decide +kernel
theorem dX12_set_1 : decode cX12_set 1 = .ok (.invokestatic 330, 3) := by decide +kernel
theorem dX12_set_4 : decode cX12_set 4 = .ok (.ifCond .eq 13, 3) := by decide +kernel
theorem dX12_set_7 : decode cX12_set 7 = .ok (.iload_n 2, 1) := by decide +kernel
theorem dX12_set_8 : decode cX12_set 8 = .ok (.i2l, 1) := by decide +kernel
theorem dX12_set_9 : decode cX12_set 9 = .ok (.lconst 0, 1) := by decide +kernel
theorem dX12_set_10 : decode cX12_set 10 = .ok (.lconst 1, 1) := by decide +kernel
theorem dX12_set_11 : decode cX12_set 11 = .ok (.invokestatic 68, 3) := by decide +kernel
theorem dX12_set_14 : decode cX12_set 14 = .ok (.ifCond .ne 5, 3) := by decide +kernel
theorem dX12_set_17 : decode cX12_set 17 = .ok (.iconst (-1), 1) := by decide +kernel
theorem dX12_set_18 : decode cX12_set 18 = .ok (.ireturn, 1) := by decide +kernel
theorem dX12_set_19 : decode cX12_set 19 = .ok (.aload_n 0, 1) := by decide +kernel
theorem dX12_set_20 : decode cX12_set 20 = .ok (.bipush 10, 2) := by decide +kernel
theorem dX12_set_22 : decode cX12_set 22 = .ok (.invokevirtual 336, 3) := by decide +kernel
theorem dX12_set_25 : decode cX12_set 25 = .ok (.bipush (-2), 2) := by decide +kernel
theorem dX12_set_27 : decode cX12_set 27 = .ok (.istore_n 3, 1) := by decide +kernel
theorem dX12_set_28 : decode cX12_set 28 = .ok (.iconst 0, 1) := by decide +kernel
theorem dX12_set_29 : decode cX12_set 29 = .ok (.istore 4, 2) := by decide +kernel
theorem dX12_set_31 : decode cX12_set 31 = .ok (.iconst 0, 1) := by decide +kernel
theorem dX12_set_32 : decode cX12_set 32 = .ok (.istore 5, 2) := by decide +kernel
theorem dX12_set_34 : decode cX12_set 34 = .ok (.iload 5, 2) := by decide +kernel
theorem dX12_set_36 : decode cX12_set 36 = .ok (.iconst 1, 1) := by decide +kernel
theorem dX12_set_37 : decode cX12_set 37 = .ok (.aload_n 0, 1) := by decide +kernel
theorem dX12_set_38 : decode cX12_set 38 = .ok (.getfield 333, 3) := by decide +kernel
theorem dX12_set_41 : decode cX12_set 41 = .ok (.ishl, 1) := by decide +kernel
theorem dX12_set_42 : decode cX12_set 42 = .ok (.if_icmp .ge 74, 3) := by decide +kernel
theorem dX12_set_45 : decode cX12_set 45 = .ok (.aload_n 0, 1) := by decide +kernel
theorem dX12_set_46 : decode cX12_set 46 = .ok (.iload 5, 2) := by decide +kernel
theorem dX12_set_48 : decode cX12_set 48 = .ok (.invokevirtual 339, 3) := by decide +kernel
theorem dX12_set_51 : decode cX12_set 51 = .ok (.istore 6, 2) := by decide +kernel
theorem dX12_set_53 : decode cX12_set 53 = .ok (.iload_n 3, 1) := by decide +kernel
theorem dX12_set_54 : decode cX12_set 54 = .ok (.bipush (-2), 2) := by decide +kernel
theorem dX12_set_56 : decode cX12_set 56 = .ok (.if_icmp .eq 29, 3) := by decide +kernel
theorem dX12_set_59 : decode cX12_set 59 = .ok (.iload 6, 2) := by decide +kernel
theorem dX12_set_61 : decode cX12_set 61 = .ok (.iload 4, 2) := by decide +kernel
theorem dX12_set_63 : decode cX12_set 63 = .ok (.if_icmp .gt 47, 3) := by decide +kernel
theorem dX12_set_66 : decode cX12_set 66 = .ok (.iload 6, 2) := by decide +kernel
theorem dX12_set_68 : decode cX12_set 68 = .ok (.iload 4, 2) := by decide +kernel
theorem dX12_set_70 : decode cX12_set 70 = .ok (.if_icmp .ne 15, 3) := by decide +kernel
theorem dX12_set_73 : decode cX12_set 73 = .ok (.iload 5, 2) := by decide +kernel
theorem dX12_set_75 : decode cX12_set 75 = .ok (.invokestatic 302, 3) := by decide +kernel
theorem dX12_set_78 : decode cX12_set 78 = .ok (.iload_n 3, 1) := by decide +kernel
theorem dX12_set_79 : decode cX12_set 79 = .ok (.invokestatic 302, 3) := by decide +kernel
theorem dX12_set_82 : decode cX12_set 82 = .ok (.if_icmp .ge 28, 3) := by decide +kernel
theorem dX12_set_85 : decode cX12_set 85 = .ok (.aload_n 0, 1) := by decide +kernel
theorem dX12_set_86 : decode cX12_set 86 = .ok (.aload_n 0, 1) := by decide +kernel
theorem dX12_set_87 : decode cX12_set 87 = .ok (.iload 5, 2) := by decide +kernel
theorem dX12_set_89 : decode cX12_set 89 = .ok (.invokevirtual 342, 3) := by decide +kernel
theorem dX12_set_92 : decode cX12_set 92 = .ok (.lconst 0, 1) := by decide +kernel
theorem dX12_set_93 : decode cX12_set 93 = .ok (.invokevirtual 246, 3) := by decide +kernel
theorem dX12_set_96 : decode cX12_set 96 = .ok (.iload_n 1, 1) := by decide +kernel
theorem dX12_set_97 : decode cX12_set 97 = .ok (.if_icmp .ge 6, 3) := by decide +kernel
theorem dX12_set_100 : decode cX12_set 100 = .ok (.goto 10, 3) := by decide +kernel
theorem dX12_set_103 : decode cX12_set 103 = .ok (.iload 5, 2) := by decide +kernel
theorem dX12_set_105 : decode cX12_set 105 = .ok (.istore_n 3, 1) := by decide +kernel
theorem dX12_set_106 : decode cX12_set 106 = .ok (.iload 6, 2) := by decide +kernel
theorem dX12_set_108 : decode cX12_set 108 = .ok (.istore 4, 2) := by decide +kernel
theorem dX12_set_110 : decode cX12_set 110 = .ok (.iinc 5 1, 3) := by decide +kernel
theorem dX12_set_113 : decode cX12_set 113 = .ok (.goto (-79), 3) := by decide +kernel
theorem dX12_set_116 : decode cX12_set 116 = .ok (.iload_n 3, 1) := by decide +kernel
theorem dX12_set_117 : decode cX12_set 117 = .ok (.bipush (-2), 2) := by decide +kernel
theorem dX12_set_119 : decode cX12_set 119 = .ok (.if_icmp .ne 8, 3) := by decide +kernel
theorem dX12_set_122 : decode cX12_set 122 = .ok (.bipush (-2), 2) := by decide +kernel
theorem dX12_set_124 : decode cX12_set 124 = .ok (.goto 13, 3) := by decide +kernel
theorem dX12_set_127 : decode cX12_set 127 = .ok (.iload_n 2, 1) := by decide +kernel
theorem dX12_set_128 : decode cX12_set 128 = .ok (.ifCond .ne 8, 3) := by decide +kernel
theorem dX12_set_131 : decode cX12_set 131 = .ok (.iload 4, 2) := by decide +kernel
theorem dX12_set_133 : decode cX12_set 133 = .ok (.goto 4, 3) := by decide +kernel
theorem dX12_set_136 : decode cX12_set 136 = .ok (.iload_n 3, 1) := by decide +kernel
theorem dX12_set_137 : decode cX12_set 137 = .ok (.ireturn, 1) := by decide +kernel
theorem dX12_fit_0 : decode cX12_fit 0 = .ok (.iload_n 1, 1) := by decide +kernel
theorem dX12_fit_1 : decode cX12_fit 1 = .ok (.invokestatic 330, 3) := by decide +kernel
theorem dX12_fit_4 : decode cX12_fit 4 = .ok (.ifCond .eq 15, 3) := by decide +kernel
theorem dX12_fit_7 : decode cX12_fit 7 = .ok (.iload_n 2, 1) := by decide +kernel
theorem dX12_fit_8 : decode cX12_fit 8 = .ok (.i2l, 1) := by decide +kernel
theorem dX12_fit_9 : decode cX12_fit 9 = .ok (.lconst 0, 1) := by decide +kernel
theorem dX12_fit_10 : decode cX12_fit 10 = .ok (.ldc2_w 300, 3) := by decide +kernel
theorem dX12_fit_13 : decode cX12_fit 13 = .ok (.invokestatic 68, 3) := by decide +kernel
theorem dX12_fit_16 : decode cX12_fit 16 = .ok (.ifCond .ne 5, 3) := by decide +kernel
theorem dX12_fit_19 : decode cX12_fit 19 = .ok (.iconst (-1), 1) := by decide +kernel
theorem dX12_fit_20 : decode cX12_fit 20 = .ok (.ireturn, 1) := by decide +kernel
theorem dX12_fit_21 : decode cX12_fit 21 = .ok (.aload_n 0, 1) := by decide +kernel
theorem dX12_fit_22 : decode cX12_fit 22 = .ok (.bipush 6, 2) := by decide +kernel
theorem dX12_fit_24 : decode cX12_fit 24 = .ok (.invokevirtual 336, 3) := by decide +kernel
theorem dX12_fit_27 : decode cX12_fit 27 = .ok (.bipush (-2), 2) := by decide +kernel
theorem dX12_fit_29 : decode cX12_fit 29 = .ok (.istore_n 3, 1) := by decide +kernel
theorem dX12_fit_30 : decode cX12_fit 30 = .ok (.iconst 0, 1) := by decide +kernel
theorem dX12_fit_31 : decode cX12_fit 31 = .ok (.istore 4, 2) := by decide +kernel
theorem dX12_fit_33 : decode cX12_fit 33 = .ok (.iconst 0, 1) := by decide +kernel
theorem dX12_fit_34 : decode cX12_fit 34 = .ok (.istore 5, 2) := by decide +kernel
theorem dX12_fit_36 : decode cX12_fit 36 = .ok (.iconst 1, 1) := by decide +kernel
theorem dX12_fit_37 : decode cX12_fit 37 = .ok (.istore 6, 2) := by decide +kernel
theorem dX12_fit_39 : decode cX12_fit 39 = .ok (.iconst 0, 1) := by decide +kernel
theorem dX12_fit_40 : decode cX12_fit 40 = .ok (.istore 7, 2) := by decide +kernel
theorem dX12_fit_42 : decode cX12_fit 42 = .ok (.iload 7, 2) := by decide +kernel
theorem dX12_fit_44 : decode cX12_fit 44 = .ok (.aload_n 0, 1) := by decide +kernel
theorem dX12_fit_45 : decode cX12_fit 45 = .ok (.getfield 333, 3) := by decide +kernel
theorem dX12_fit_48 : decode cX12_fit 48 = .ok (.if_icmp .ge 15, 3) := by decide +kernel
theorem dX12_fit_51 : decode cX12_fit 51 = .ok (.iload 6, 2) := by decide +kernel
theorem dX12_fit_53 : decode cX12_fit 53 = .ok (.iconst 3, 1) := by decide +kernel
theorem dX12_fit_54 : decode cX12_fit 54 = .ok (.imul, 1) := by decide +kernel
theorem dX12_fit_55 : decode cX12_fit 55 = .ok (.istore 6, 2) := by decide +kernel
theorem dX12_fit_57 : decode cX12_fit 57 = .ok (.iinc 7 1, 3) := by decide +kernel
theorem dX12_fit_60 : decode cX12_fit 60 = .ok (.goto (-18), 3) := by decide +kernel
theorem dX12_fit_63 : decode cX12_fit 63 = .ok (.iconst 0, 1) := by decide +kernel
theorem dX12_fit_64 : decode cX12_fit 64 = .ok (.istore 7, 2) := by decide +kernel
theorem dX12_fit_66 : decode cX12_fit 66 = .ok (.iload 7, 2) := by decide +kernel
theorem dX12_fit_68 : decode cX12_fit 68 = .ok (.iload 6, 2) := by decide +kernel
theorem dX12_fit_70 : decode cX12_fit 70 = .ok (.if_icmp .ge 140, 3) := by decide +kernel
theorem dX12_fit_73 : decode cX12_fit 73 = .ok (.iconst 0, 1) := by decide +kernel
theorem dX12_fit_74 : decode cX12_fit 74 = .ok (.istore 8, 2) := by decide +kernel
theorem dX12_fit_76 : decode cX12_fit 76 = .ok (.iconst 0, 1) := by decide +kernel
theorem dX12_fit_77 : decode cX12_fit 77 = .ok (.istore 9, 2) := by decide +kernel
theorem dX12_fit_79 : decode cX12_fit 79 = .ok (.iload 7, 2) := by decide +kernel
theorem dX12_fit_81 : decode cX12_fit 81 = .ok (.istore 10, 2) := by decide +kernel
theorem dX12_fit_83 : decode cX12_fit 83 = .ok (.iconst 0, 1) := by decide +kernel
theorem dX12_fit_84 : decode cX12_fit 84 = .ok (.istore 11, 2) := by decide +kernel
theorem dX12_fit_86 : decode cX12_fit 86 = .ok (.iload 11, 2) := by decide +kernel
theorem dX12_fit_88 : decode cX12_fit 88 = .ok (.aload_n 0, 1) := by decide +kernel
theorem dX12_fit_89 : decode cX12_fit 89 = .ok (.getfield 333, 3) := by decide +kernel
theorem dX12_fit_92 : decode cX12_fit 92 = .ok (.if_icmp .ge 57, 3) := by decide +kernel
theorem dX12_fit_95 : decode cX12_fit 95 = .ok (.iload 8, 2) := by decide +kernel
theorem dX12_fit_97 : decode cX12_fit 97 = .ok (.iload 10, 2) := by decide +kernel
theorem dX12_fit_99 : decode cX12_fit 99 = .ok (.iconst 3, 1) := by decide +kernel
theorem dX12_fit_100 : decode cX12_fit 100 = .ok (.irem, 1) := by decide +kernel
theorem dX12_fit_101 : decode cX12_fit 101 = .ok (.iconst 1, 1) := by decide +kernel
theorem dX12_fit_102 : decode cX12_fit 102 = .ok (.if_icmp .ne 10, 3) := by decide +kernel
theorem dX12_fit_105 : decode cX12_fit 105 = .ok (.iconst 1, 1) := by decide +kernel
theorem dX12_fit_106 : decode cX12_fit 106 = .ok (.iload 11, 2) := by decide +kernel
theorem dX12_fit_108 : decode cX12_fit 108 = .ok (.ishl, 1) := by decide +kernel
theorem dX12_fit_109 : decode cX12_fit 109 = .ok (.goto 4, 3) := by decide +kernel
theorem dX12_fit_112 : decode cX12_fit 112 = .ok (.iconst 0, 1) := by decide +kernel
theorem dX12_fit_113 : decode cX12_fit 113 = .ok (.ior, 1) := by decide +kernel
theorem dX12_fit_114 : decode cX12_fit 114 = .ok (.istore 8, 2) := by decide +kernel
theorem dX12_fit_116 : decode cX12_fit 116 = .ok (.iload 9, 2) := by decide +kernel
theorem dX12_fit_118 : decode cX12_fit 118 = .ok (.iload 10, 2) := by decide +kernel
theorem dX12_fit_120 : decode cX12_fit 120 = .ok (.iconst 3, 1) := by decide +kernel
theorem dX12_fit_121 : decode cX12_fit 121 = .ok (.irem, 1) := by decide +kernel
theorem dX12_fit_122 : decode cX12_fit 122 = .ok (.iconst 2, 1) := by decide +kernel
theorem dX12_fit_123 : decode cX12_fit 123 = .ok (.if_icmp .ne 10, 3) := by decide +kernel
theorem dX12_fit_126 : decode cX12_fit 126 = .ok (.iconst 1, 1) := by decide +kernel
theorem dX12_fit_127 : decode cX12_fit 127 = .ok (.iload 11, 2) := by decide +kernel
theorem dX12_fit_129 : decode cX12_fit 129 = .ok (.ishl, 1) := by decide +kernel
theorem dX12_fit_130 : decode cX12_fit 130 = .ok (.goto 4, 3) := by decide +kernel
theorem dX12_fit_133 : decode cX12_fit 133 = .ok (.iconst 0, 1) := by decide +kernel
theorem dX12_fit_134 : decode cX12_fit 134 = .ok (.ior, 1) := by decide +kernel
theorem dX12_fit_135 : decode cX12_fit 135 = .ok (.istore 9, 2) := by decide +kernel
theorem dX12_fit_137 : decode cX12_fit 137 = .ok (.iload 10, 2) := by decide +kernel
theorem dX12_fit_139 : decode cX12_fit 139 = .ok (.iconst 3, 1) := by decide +kernel
theorem dX12_fit_140 : decode cX12_fit 140 = .ok (.idiv, 1) := by decide +kernel
theorem dX12_fit_141 : decode cX12_fit 141 = .ok (.istore 10, 2) := by decide +kernel
theorem dX12_fit_143 : decode cX12_fit 143 = .ok (.iinc 11 1, 3) := by decide +kernel
theorem dX12_fit_146 : decode cX12_fit 146 = .ok (.goto (-60), 3) := by decide +kernel
theorem dX12_fit_149 : decode cX12_fit 149 = .ok (.aload_n 0, 1) := by decide +kernel
theorem dX12_fit_150 : decode cX12_fit 150 = .ok (.iload 8, 2) := by decide +kernel
theorem dX12_fit_152 : decode cX12_fit 152 = .ok (.invokevirtual 339, 3) := by decide +kernel
theorem dX12_fit_155 : decode cX12_fit 155 = .ok (.istore 11, 2) := by decide +kernel
theorem dX12_fit_157 : decode cX12_fit 157 = .ok (.iload_n 3, 1) := by decide +kernel
theorem dX12_fit_158 : decode cX12_fit 158 = .ok (.bipush (-2), 2) := by decide +kernel
theorem dX12_fit_160 : decode cX12_fit 160 = .ok (.if_icmp .eq 10, 3) := by decide +kernel
theorem dX12_fit_163 : decode cX12_fit 163 = .ok (.iload 11, 2) := by decide +kernel
theorem dX12_fit_165 : decode cX12_fit 165 = .ok (.iload 5, 2) := by decide +kernel
theorem dX12_fit_167 : decode cX12_fit 167 = .ok (.if_icmp .ge 37, 3) := by decide +kernel
theorem dX12_fit_170 : decode cX12_fit 170 = .ok (.aload_n 0, 1) := by decide +kernel
theorem dX12_fit_171 : decode cX12_fit 171 = .ok (.aload_n 0, 1) := by decide +kernel
theorem dX12_fit_172 : decode cX12_fit 172 = .ok (.iload 8, 2) := by decide +kernel
theorem dX12_fit_174 : decode cX12_fit 174 = .ok (.invokevirtual 342, 3) := by decide +kernel
theorem dX12_fit_177 : decode cX12_fit 177 = .ok (.aload_n 0, 1) := by decide +kernel
theorem dX12_fit_178 : decode cX12_fit 178 = .ok (.iload 9, 2) := by decide +kernel
theorem dX12_fit_180 : decode cX12_fit 180 = .ok (.invokevirtual 342, 3) := by decide +kernel
theorem dX12_fit_183 : decode cX12_fit 183 = .ok (.invokevirtual 246, 3) := by decide +kernel
theorem dX12_fit_186 : decode cX12_fit 186 = .ok (.iload_n 1, 1) := by decide +kernel
theorem dX12_fit_187 : decode cX12_fit 187 = .ok (.if_icmp .ge 6, 3) := by decide +kernel
theorem dX12_fit_190 : decode cX12_fit 190 = .ok (.goto 14, 3) := by decide +kernel
theorem dX12_fit_193 : decode cX12_fit 193 = .ok (.iload 8, 2) := by decide +kernel
theorem dX12_fit_195 : decode cX12_fit 195 = .ok (.istore_n 3, 1) := by decide +kernel
theorem dX12_fit_196 : decode cX12_fit 196 = .ok (.iload 9, 2) := by decide +kernel
theorem dX12_fit_198 : decode cX12_fit 198 = .ok (.istore 4, 2) := by decide +kernel
theorem dX12_fit_200 : decode cX12_fit 200 = .ok (.iload 11, 2) := by decide +kernel
theorem dX12_fit_202 : decode cX12_fit 202 = .ok (.istore 5, 2) := by decide +kernel
theorem dX12_fit_204 : decode cX12_fit 204 = .ok (.iinc 7 1, 3) := by decide +kernel
theorem dX12_fit_207 : decode cX12_fit 207 = .ok (.goto (-141), 3) := by decide +kernel
theorem dX12_fit_210 : decode cX12_fit 210 = .ok (.iload_n 3, 1) := by decide +kernel
theorem dX12_fit_211 : decode cX12_fit 211 = .ok (.bipush (-2), 2) := by decide +kernel
theorem dX12_fit_213 : decode cX12_fit 213 = .ok (.if_icmp .ne 8, 3) := by decide +kernel
theorem dX12_fit_216 : decode cX12_fit 216 = .ok (.bipush (-2), 2) := by decide +kernel
theorem dX12_fit_218 : decode cX12_fit 218 = .ok (.goto 23, 3) := by decide +kernel
theorem dX12_fit_221 : decode cX12_fit 221 = .ok (.iload_n 2, 1) := by decide +kernel
theorem dX12_fit_222 : decode cX12_fit 222 = .ok (.ifCond .ne 8, 3) := by decide +kernel
theorem dX12_fit_225 : decode cX12_fit 225 = .ok (.iload 5, 2) := by decide +kernel
theorem dX12_fit_227 : decode cX12_fit 227 = .ok (.goto 14, 3) := by decide +kernel
theorem dX12_fit_230 : decode cX12_fit 230 = .ok (.iload_n 2, 1) := by decide +kernel
theorem dX12_fit_231 : decode cX12_fit 231 = .ok (.iconst 1, 1) := by decide +kernel
theorem dX12_fit_232 : decode cX12_fit 232 = .ok (.if_icmp .ne 7, 3) := by decide +kernel
theorem dX12_fit_235 : decode cX12_fit 235 = .ok (.iload_n 3, 1) := by decide +kernel
theorem dX12_fit_236 : decode cX12_fit 236 = .ok (.goto 5, 3) := by decide +kernel
theorem dX12_fit_239 : decode cX12_fit 239 = .ok (.iload 4, 2) := by decide +kernel
theorem dX12_fit_241 : decode cX12_fit 241 = .ok (.ireturn, 1) := by decide +kernel
theorem dX12_turned_0 : decode cX12_turned 0 = .ok (.aload_n 0, 1) := by decide +kernel
theorem dX12_turned_1 : decode cX12_turned 1 = .ok (.iload_n 1, 1) := by decide +kernel
theorem dX12_turned_2 : decode cX12_turned 2 = .ok (.invokevirtual 261, 3) := by decide +kernel
theorem dX12_turned_5 : decode cX12_turned 5 = .ok (.ifCond .eq 13, 3) := by decide +kernel
theorem dX12_turned_8 : decode cX12_turned 8 = .ok (.iload_n 2, 1) := by decide +kernel
theorem dX12_turned_9 : decode cX12_turned 9 = .ok (.i2l, 1) := by decide +kernel
theorem dX12_turned_10 : decode cX12_turned 10 = .ok (.lconst 0, 1) := by decide +kernel
theorem dX12_turned_11 : decode cX12_turned 11 = .ok (.lconst 1, 1) := by decide +kernel
theorem dX12_turned_12 : decode cX12_turned 12 = .ok (.invokestatic 68, 3) := by decide +kernel
theorem dX12_turned_15 : decode cX12_turned 15 = .ok (.ifCond .ne 5, 3) := by decide +kernel
theorem dX12_turned_18 : decode cX12_turned 18 = .ok (.iconst (-1), 1) := by decide +kernel
theorem dX12_turned_19 : decode cX12_turned 19 = .ok (.ireturn, 1) := by decide +kernel
theorem dX12_turned_20 : decode cX12_turned 20 = .ok (.iload_n 2, 1) := by decide +kernel
theorem dX12_turned_21 : decode cX12_turned 21 = .ok (.ifCond .ne 11, 3) := by decide +kernel
theorem dX12_turned_24 : decode cX12_turned 24 = .ok (.aload_n 0, 1) := by decide +kernel
theorem dX12_turned_25 : decode cX12_turned 25 = .ok (.iload_n 1, 1) := by decide +kernel
theorem dX12_turned_26 : decode cX12_turned 26 = .ok (.invokevirtual 227, 3) := by decide +kernel
theorem dX12_turned_29 : decode cX12_turned 29 = .ok (.goto 30, 3) := by decide +kernel
theorem dX12_turned_32 : decode cX12_turned 32 = .ok (.aload_n 0, 1) := by decide +kernel
theorem dX12_turned_33 : decode cX12_turned 33 = .ok (.lconst 0, 1) := by decide +kernel
theorem dX12_turned_34 : decode cX12_turned 34 = .ok (.lconst 0, 1) := by decide +kernel
theorem dX12_turned_35 : decode cX12_turned 35 = .ok (.aload_n 0, 1) := by decide +kernel
theorem dX12_turned_36 : decode cX12_turned 36 = .ok (.getfield 3, 3) := by decide +kernel
theorem dX12_turned_39 : decode cX12_turned 39 = .ok (.iconst 1, 1) := by decide +kernel
theorem dX12_turned_40 : decode cX12_turned 40 = .ok (.iaload, 1) := by decide +kernel
theorem dX12_turned_41 : decode cX12_turned 41 = .ok (.invokevirtual 241, 3) := by decide +kernel
theorem dX12_turned_44 : decode cX12_turned 44 = .ok (.aload_n 0, 1) := by decide +kernel
theorem dX12_turned_45 : decode cX12_turned 45 = .ok (.lconst 0, 1) := by decide +kernel
theorem dX12_turned_46 : decode cX12_turned 46 = .ok (.lconst 1, 1) := by decide +kernel
theorem dX12_turned_47 : decode cX12_turned 47 = .ok (.iload_n 1, 1) := by decide +kernel
theorem dX12_turned_48 : decode cX12_turned 48 = .ok (.lshl, 1) := by decide +kernel
theorem dX12_turned_49 : decode cX12_turned 49 = .ok (.aload_n 0, 1) := by decide +kernel
theorem dX12_turned_50 : decode cX12_turned 50 = .ok (.getfield 3, 3) := by decide +kernel
theorem dX12_turned_53 : decode cX12_turned 53 = .ok (.iconst 1, 1) := by decide +kernel
theorem dX12_turned_54 : decode cX12_turned 54 = .ok (.iaload, 1) := by decide +kernel
theorem dX12_turned_55 : decode cX12_turned 55 = .ok (.invokevirtual 241, 3) := by decide +kernel
theorem dX12_turned_58 : decode cX12_turned 58 = .ok (.isub, 1) := by decide +kernel
theorem dX12_turned_59 : decode cX12_turned 59 = .ok (.ireturn, 1) := by decide +kernel
theorem dX12_allTurned_0 : decode cX12_allTurned 0 = .ok (.lconst 0, 1) := by decide +kernel
theorem dX12_allTurned_1 : decode cX12_allTurned 1 = .ok (.lstore_n 1, 1) := by decide +kernel
theorem dX12_allTurned_2 : decode cX12_allTurned 2 = .ok (.iconst 0, 1) := by decide +kernel
theorem dX12_allTurned_3 : decode cX12_allTurned 3 = .ok (.istore_n 3, 1) := by decide +kernel
theorem dX12_allTurned_4 : decode cX12_allTurned 4 = .ok (.iload_n 3, 1) := by decide +kernel
theorem dX12_allTurned_5 : decode cX12_allTurned 5 = .ok (.aload_n 0, 1) := by decide +kernel
theorem dX12_allTurned_6 : decode cX12_allTurned 6 = .ok (.getfield 3, 3) := by decide +kernel
theorem dX12_allTurned_9 : decode cX12_allTurned 9 = .ok (.bipush 7, 2) := by decide +kernel
theorem dX12_allTurned_11 : decode cX12_allTurned 11 = .ok (.iaload, 1) := by decide +kernel
theorem dX12_allTurned_12 : decode cX12_allTurned 12 = .ok (.if_icmp .ge 27, 3) := by decide +kernel
theorem dX12_allTurned_15 : decode cX12_allTurned 15 = .ok (.lload_n 1, 1) := by decide +kernel
theorem dX12_allTurned_16 : decode cX12_allTurned 16 = .ok (.aload_n 0, 1) := by decide +kernel
theorem dX12_allTurned_17 : decode cX12_allTurned 17 = .ok (.iload_n 3, 1) := by decide +kernel
theorem dX12_allTurned_18 : decode cX12_allTurned 18 = .ok (.invokevirtual 261, 3) := by decide +kernel
theorem dX12_allTurned_21 : decode cX12_allTurned 21 = .ok (.ifCond .eq 9, 3) := by decide +kernel
theorem dX12_allTurned_24 : decode cX12_allTurned 24 = .ok (.lconst 1, 1) := by decide +kernel
theorem dX12_allTurned_25 : decode cX12_allTurned 25 = .ok (.iload_n 3, 1) := by decide +kernel
theorem dX12_allTurned_26 : decode cX12_allTurned 26 = .ok (.lshl, 1) := by decide +kernel
theorem dX12_allTurned_27 : decode cX12_allTurned 27 = .ok (.goto 4, 3) := by decide +kernel
theorem dX12_allTurned_30 : decode cX12_allTurned 30 = .ok (.lconst 0, 1) := by decide +kernel
theorem dX12_allTurned_31 : decode cX12_allTurned 31 = .ok (.lor, 1) := by decide +kernel
theorem dX12_allTurned_32 : decode cX12_allTurned 32 = .ok (.lstore_n 1, 1) := by decide +kernel
theorem dX12_allTurned_33 : decode cX12_allTurned 33 = .ok (.iinc 3 1, 3) := by decide +kernel
theorem dX12_allTurned_36 : decode cX12_allTurned 36 = .ok (.goto (-32), 3) := by decide +kernel
theorem dX12_allTurned_39 : decode cX12_allTurned 39 = .ok (.aload_n 0, 1) := by decide +kernel
theorem dX12_allTurned_40 : decode cX12_allTurned 40 = .ok (.lconst 0, 1) := by decide +kernel
theorem dX12_allTurned_41 : decode cX12_allTurned 41 = .ok (.lload_n 1, 1) := by decide +kernel
theorem dX12_allTurned_42 : decode cX12_allTurned 42 = .ok (.invokevirtual 246, 3) := by decide +kernel
theorem dX12_allTurned_45 : decode cX12_allTurned 45 = .ok (.ireturn, 1) := by decide +kernel
theorem dX12_piece_0 : decode cX12_piece 0 = .ok (.aload_n 0, 1) := by decide +kernel
theorem dX12_piece_1 : decode cX12_piece 1 = .ok (.iload_n 1, 1) := by decide +kernel
theorem dX12_piece_2 : decode cX12_piece 2 = .ok (.invokevirtual 261, 3) := by decide +kernel
theorem dX12_piece_5 : decode cX12_piece 5 = .ok (.ifCond .eq 46, 3) := by decide +kernel
theorem dX12_piece_8 : decode cX12_piece 8 = .ok (.iload_n 2, 1) := by decide +kernel
theorem dX12_piece_9 : decode cX12_piece 9 = .ok (.i2l, 1) := by decide +kernel
theorem dX12_piece_10 : decode cX12_piece 10 = .ok (.lconst 1, 1) := by decide +kernel
theorem dX12_piece_11 : decode cX12_piece 11 = .ok (.ldc2_w 287, 3) := by decide +kernel
theorem dX12_piece_14 : decode cX12_piece 14 = .ok (.invokestatic 68, 3) := by decide +kernel
theorem dX12_piece_17 : decode cX12_piece 17 = .ok (.ifCond .eq 34, 3) := by decide +kernel
theorem dX12_piece_20 : decode cX12_piece 20 = .ok (.iload_n 3, 1) := by decide +kernel
theorem dX12_piece_21 : decode cX12_piece 21 = .ok (.i2l, 1) := by decide +kernel
theorem dX12_piece_22 : decode cX12_piece 22 = .ok (.lconst 0, 1) := by decide +kernel
theorem dX12_piece_23 : decode cX12_piece 23 = .ok (.ldc2_w 292, 3) := by decide +kernel
theorem dX12_piece_26 : decode cX12_piece 26 = .ok (.invokestatic 68, 3) := by decide +kernel
theorem dX12_piece_29 : decode cX12_piece 29 = .ok (.ifCond .eq 22, 3) := by decide +kernel
theorem dX12_piece_32 : decode cX12_piece 32 = .ok (.iload_n 2, 1) := by decide +kernel
theorem dX12_piece_33 : decode cX12_piece 33 = .ok (.aload_n 0, 1) := by decide +kernel
theorem dX12_piece_34 : decode cX12_piece 34 = .ok (.iload_n 1, 1) := by decide +kernel
theorem dX12_piece_35 : decode cX12_piece 35 = .ok (.aload_n 0, 1) := by decide +kernel
theorem dX12_piece_36 : decode cX12_piece 36 = .ok (.getfield 3, 3) := by decide +kernel
theorem dX12_piece_39 : decode cX12_piece 39 = .ok (.iconst 0, 1) := by decide +kernel
theorem dX12_piece_40 : decode cX12_piece 40 = .ok (.iaload, 1) := by decide +kernel
theorem dX12_piece_41 : decode cX12_piece 41 = .ok (.invokevirtual 125, 3) := by decide +kernel
theorem dX12_piece_44 : decode cX12_piece 44 = .ok (.iload_n 3, 1) := by decide +kernel
theorem dX12_piece_45 : decode cX12_piece 45 = .ok (.invokestatic 128, 3) := by decide +kernel
theorem dX12_piece_48 : decode cX12_piece 48 = .ok (.goto 4, 3) := by decide +kernel
theorem dX12_piece_51 : decode cX12_piece 51 = .ok (.iconst (-1), 1) := by decide +kernel
theorem dX12_piece_52 : decode cX12_piece 52 = .ok (.ireturn, 1) := by decide +kernel
theorem dX12_ahead_0 : decode cX12_ahead 0 = .ok (.iload_n 1, 1) := by decide +kernel
theorem dX12_ahead_1 : decode cX12_ahead 1 = .ok (.invokestatic 253, 3) := by decide +kernel
theorem dX12_ahead_4 : decode cX12_ahead 4 = .ok (.ifCond .eq 13, 3) := by decide +kernel
theorem dX12_ahead_7 : decode cX12_ahead 7 = .ok (.iload_n 1, 1) := by decide +kernel
theorem dX12_ahead_8 : decode cX12_ahead 8 = .ok (.aload_n 0, 1) := by decide +kernel
theorem dX12_ahead_9 : decode cX12_ahead 9 = .ok (.getfield 3, 3) := by decide +kernel
theorem dX12_ahead_12 : decode cX12_ahead 12 = .ok (.iconst 0, 1) := by decide +kernel
theorem dX12_ahead_13 : decode cX12_ahead 13 = .ok (.iaload, 1) := by decide +kernel
theorem dX12_ahead_14 : decode cX12_ahead 14 = .ok (.if_icmp .gt 5, 3) := by decide +kernel
theorem dX12_ahead_17 : decode cX12_ahead 17 = .ok (.iconst (-1), 1) := by decide +kernel
theorem dX12_ahead_18 : decode cX12_ahead 18 = .ok (.ireturn, 1) := by decide +kernel
theorem dX12_ahead_19 : decode cX12_ahead 19 = .ok (.aload_n 0, 1) := by decide +kernel
theorem dX12_ahead_20 : decode cX12_ahead 20 = .ok (.getfield 3, 3) := by decide +kernel
theorem dX12_ahead_23 : decode cX12_ahead 23 = .ok (.bipush 30, 2) := by decide +kernel
theorem dX12_ahead_25 : decode cX12_ahead 25 = .ok (.iload_n 1, 1) := by decide +kernel
theorem dX12_ahead_26 : decode cX12_ahead 26 = .ok (.iadd, 1) := by decide +kernel
theorem dX12_ahead_27 : decode cX12_ahead 27 = .ok (.iaload, 1) := by decide +kernel
theorem dX12_ahead_28 : decode cX12_ahead 28 = .ok (.istore_n 2, 1) := by decide +kernel
theorem dX12_ahead_29 : decode cX12_ahead 29 = .ok (.iconst 0, 1) := by decide +kernel
theorem dX12_ahead_30 : decode cX12_ahead 30 = .ok (.istore_n 3, 1) := by decide +kernel
theorem dX12_ahead_31 : decode cX12_ahead 31 = .ok (.iload_n 3, 1) := by decide +kernel
theorem dX12_ahead_32 : decode cX12_ahead 32 = .ok (.aload_n 0, 1) := by decide +kernel
theorem dX12_ahead_33 : decode cX12_ahead 33 = .ok (.getfield 3, 3) := by decide +kernel
theorem dX12_ahead_36 : decode cX12_ahead 36 = .ok (.bipush 7, 2) := by decide +kernel
theorem dX12_ahead_38 : decode cX12_ahead 38 = .ok (.iaload, 1) := by decide +kernel
theorem dX12_ahead_39 : decode cX12_ahead 39 = .ok (.if_icmp .ge 66, 3) := by decide +kernel
theorem dX12_ahead_42 : decode cX12_ahead 42 = .ok (.aload_n 0, 1) := by decide +kernel
theorem dX12_ahead_43 : decode cX12_ahead 43 = .ok (.iload_n 3, 1) := by decide +kernel
theorem dX12_ahead_44 : decode cX12_ahead 44 = .ok (.invokevirtual 209, 3) := by decide +kernel
theorem dX12_ahead_47 : decode cX12_ahead 47 = .ok (.ifCond .eq 52, 3) := by decide +kernel
theorem dX12_ahead_50 : decode cX12_ahead 50 = .ok (.iload_n 2, 1) := by decide +kernel
theorem dX12_ahead_51 : decode cX12_ahead 51 = .ok (.iload_n 1, 1) := by decide +kernel
theorem dX12_ahead_52 : decode cX12_ahead 52 = .ok (.aload_n 0, 1) := by decide +kernel
theorem dX12_ahead_53 : decode cX12_ahead 53 = .ok (.iload_n 3, 1) := by decide +kernel
theorem dX12_ahead_54 : decode cX12_ahead 54 = .ok (.invokevirtual 132, 3) := by decide +kernel
theorem dX12_ahead_57 : decode cX12_ahead 57 = .ok (.if_icmp .ge 21, 3) := by decide +kernel
theorem dX12_ahead_60 : decode cX12_ahead 60 = .ok (.aload_n 0, 1) := by decide +kernel
theorem dX12_ahead_61 : decode cX12_ahead 61 = .ok (.iload_n 3, 1) := by decide +kernel
theorem dX12_ahead_62 : decode cX12_ahead 62 = .ok (.iload_n 1, 1) := by decide +kernel
theorem dX12_ahead_63 : decode cX12_ahead 63 = .ok (.invokevirtual 230, 3) := by decide +kernel
theorem dX12_ahead_66 : decode cX12_ahead 66 = .ok (.aload_n 0, 1) := by decide +kernel
theorem dX12_ahead_67 : decode cX12_ahead 67 = .ok (.iload_n 3, 1) := by decide +kernel
theorem dX12_ahead_68 : decode cX12_ahead 68 = .ok (.iload_n 1, 1) := by decide +kernel
theorem dX12_ahead_69 : decode cX12_ahead 69 = .ok (.iconst 1, 1) := by decide +kernel
theorem dX12_ahead_70 : decode cX12_ahead 70 = .ok (.iconst (-1), 1) := by decide +kernel
theorem dX12_ahead_71 : decode cX12_ahead 71 = .ok (.invokevirtual 237, 3) := by decide +kernel
theorem dX12_ahead_74 : decode cX12_ahead 74 = .ok (.iadd, 1) := by decide +kernel
theorem dX12_ahead_75 : decode cX12_ahead 75 = .ok (.goto 22, 3) := by decide +kernel
theorem dX12_ahead_78 : decode cX12_ahead 78 = .ok (.iload_n 1, 1) := by decide +kernel
theorem dX12_ahead_79 : decode cX12_ahead 79 = .ok (.aload_n 0, 1) := by decide +kernel
theorem dX12_ahead_80 : decode cX12_ahead 80 = .ok (.iload_n 3, 1) := by decide +kernel
theorem dX12_ahead_81 : decode cX12_ahead 81 = .ok (.invokevirtual 132, 3) := by decide +kernel
theorem dX12_ahead_84 : decode cX12_ahead 84 = .ok (.if_icmp .ne 12, 3) := by decide +kernel
theorem dX12_ahead_87 : decode cX12_ahead 87 = .ok (.aload_n 0, 1) := by decide +kernel
theorem dX12_ahead_88 : decode cX12_ahead 88 = .ok (.iload_n 3, 1) := by decide +kernel
theorem dX12_ahead_89 : decode cX12_ahead 89 = .ok (.iload_n 1, 1) := by decide +kernel
theorem dX12_ahead_90 : decode cX12_ahead 90 = .ok (.invokevirtual 212, 3) := by decide +kernel
theorem dX12_ahead_93 : decode cX12_ahead 93 = .ok (.goto 4, 3) := by decide +kernel
theorem dX12_ahead_96 : decode cX12_ahead 96 = .ok (.iconst 0, 1) := by decide +kernel
theorem dX12_ahead_97 : decode cX12_ahead 97 = .ok (.iadd, 1) := by decide +kernel
theorem dX12_ahead_98 : decode cX12_ahead 98 = .ok (.istore_n 2, 1) := by decide +kernel
theorem dX12_ahead_99 : decode cX12_ahead 99 = .ok (.iinc 3 1, 3) := by decide +kernel
theorem dX12_ahead_102 : decode cX12_ahead 102 = .ok (.goto (-71), 3) := by decide +kernel
theorem dX12_ahead_105 : decode cX12_ahead 105 = .ok (.iload_n 2, 1) := by decide +kernel
theorem dX12_ahead_106 : decode cX12_ahead 106 = .ok (.ireturn, 1) := by decide +kernel
theorem dX12_over_0 : decode cX12_over 0 = .ok (.iload_n 1, 1) := by decide +kernel
theorem dX12_over_1 : decode cX12_over 1 = .ok (.i2l, 1) := by decide +kernel
theorem dX12_over_2 : decode cX12_over 2 = .ok (.lconst 1, 1) := by decide +kernel
theorem dX12_over_3 : decode cX12_over 3 = .ok (.ldc2_w 345, 3) := by decide +kernel
theorem dX12_over_6 : decode cX12_over 6 = .ok (.invokestatic 68, 3) := by decide +kernel
theorem dX12_over_9 : decode cX12_over 9 = .ok (.ifCond .ne 5, 3) := by decide +kernel
theorem dX12_over_12 : decode cX12_over 12 = .ok (.iconst (-1), 1) := by decide +kernel
theorem dX12_over_13 : decode cX12_over 13 = .ok (.ireturn, 1) := by decide +kernel
theorem dX12_over_14 : decode cX12_over 14 = .ok (.iconst 0, 1) := by decide +kernel
theorem dX12_over_15 : decode cX12_over 15 = .ok (.istore_n 2, 1) := by decide +kernel
theorem dX12_over_16 : decode cX12_over 16 = .ok (.iconst 0, 1) := by decide +kernel
theorem dX12_over_17 : decode cX12_over 17 = .ok (.istore_n 3, 1) := by decide +kernel
theorem dX12_over_18 : decode cX12_over 18 = .ok (.iload_n 3, 1) := by decide +kernel
theorem dX12_over_19 : decode cX12_over 19 = .ok (.iload_n 1, 1) := by decide +kernel
theorem dX12_over_20 : decode cX12_over 20 = .ok (.if_icmp .ge 57, 3) := by decide +kernel
theorem dX12_over_23 : decode cX12_over 23 = .ok (.aload_n 0, 1) := by decide +kernel
theorem dX12_over_24 : decode cX12_over 24 = .ok (.getfield 3, 3) := by decide +kernel
theorem dX12_over_27 : decode cX12_over 27 = .ok (.iconst 0, 1) := by decide +kernel
theorem dX12_over_28 : decode cX12_over 28 = .ok (.iaload, 1) := by decide +kernel
theorem dX12_over_29 : decode cX12_over 29 = .ok (.iconst 1, 1) := by decide +kernel
theorem dX12_over_30 : decode cX12_over 30 = .ok (.iadd, 1) := by decide +kernel
theorem dX12_over_31 : decode cX12_over 31 = .ok (.iload_n 3, 1) := by decide +kernel
theorem dX12_over_32 : decode cX12_over 32 = .ok (.iadd, 1) := by decide +kernel
theorem dX12_over_33 : decode cX12_over 33 = .ok (.istore 4, 2) := by decide +kernel
theorem dX12_over_35 : decode cX12_over 35 = .ok (.iload_n 2, 1) := by decide +kernel
theorem dX12_over_36 : decode cX12_over 36 = .ok (.iload 4, 2) := by decide +kernel
theorem dX12_over_38 : decode cX12_over 38 = .ok (.bipush 19, 2) := by decide +kernel
theorem dX12_over_40 : decode cX12_over 40 = .ok (.if_icmp .gt 28, 3) := by decide +kernel
theorem dX12_over_43 : decode cX12_over 43 = .ok (.aload_n 0, 1) := by decide +kernel
theorem dX12_over_44 : decode cX12_over 44 = .ok (.iload 4, 2) := by decide +kernel
theorem dX12_over_46 : decode cX12_over 46 = .ok (.invokevirtual 347, 3) := by decide +kernel
theorem dX12_over_49 : decode cX12_over 49 = .ok (.aload_n 0, 1) := by decide +kernel
theorem dX12_over_50 : decode cX12_over 50 = .ok (.getfield 3, 3) := by decide +kernel
theorem dX12_over_53 : decode cX12_over 53 = .ok (.bipush 10, 2) := by decide +kernel
theorem dX12_over_55 : decode cX12_over 55 = .ok (.iload 4, 2) := by decide +kernel
theorem dX12_over_57 : decode cX12_over 57 = .ok (.iadd, 1) := by decide +kernel
theorem dX12_over_58 : decode cX12_over 58 = .ok (.iaload, 1) := by decide +kernel
theorem dX12_over_59 : decode cX12_over 59 = .ok (.if_icmp .le 9, 3) := by decide +kernel
theorem dX12_over_62 : decode cX12_over 62 = .ok (.iconst 1, 1) := by decide +kernel
theorem dX12_over_63 : decode cX12_over 63 = .ok (.iload_n 3, 1) := by decide +kernel
theorem dX12_over_64 : decode cX12_over 64 = .ok (.ishl, 1) := by decide +kernel
theorem dX12_over_65 : decode cX12_over 65 = .ok (.goto 4, 3) := by decide +kernel
theorem dX12_over_68 : decode cX12_over 68 = .ok (.iconst 0, 1) := by decide +kernel
theorem dX12_over_69 : decode cX12_over 69 = .ok (.ior, 1) := by decide +kernel
theorem dX12_over_70 : decode cX12_over 70 = .ok (.istore_n 2, 1) := by decide +kernel
theorem dX12_over_71 : decode cX12_over 71 = .ok (.iinc 3 1, 3) := by decide +kernel
theorem dX12_over_74 : decode cX12_over 74 = .ok (.goto (-56), 3) := by decide +kernel
theorem dX12_over_77 : decode cX12_over 77 = .ok (.iload_n 2, 1) := by decide +kernel
theorem dX12_over_78 : decode cX12_over 78 = .ok (.ireturn, 1) := by decide +kernel
theorem dX12_bestDay_0 : decode cX12_bestDay 0 = .ok (.aload_n 0, 1) := by decide +kernel
theorem dX12_bestDay_1 : decode cX12_bestDay 1 = .ok (.iload_n 1, 1) := by decide +kernel
theorem dX12_bestDay_2 : decode cX12_bestDay 2 = .ok (.invokevirtual 261, 3) := by decide +kernel
theorem dX12_bestDay_5 : decode cX12_bestDay 5 = .ok (.ifCond .ne 5, 3) := by decide +kernel
theorem dX12_bestDay_8 : decode cX12_bestDay 8 = .ok (.iconst (-1), 1) := by decide +kernel
theorem dX12_bestDay_9 : decode cX12_bestDay 9 = .ok (.ireturn, 1) := by decide +kernel
theorem dX12_bestDay_10 : decode cX12_bestDay 10 = .ok (.aload_n 0, 1) := by decide +kernel
theorem dX12_bestDay_11 : decode cX12_bestDay 11 = .ok (.getfield 3, 3) := by decide +kernel
theorem dX12_bestDay_14 : decode cX12_bestDay 14 = .ok (.iconst 1, 1) := by decide +kernel
theorem dX12_bestDay_15 : decode cX12_bestDay 15 = .ok (.iaload, 1) := by decide +kernel
theorem dX12_bestDay_16 : decode cX12_bestDay 16 = .ok (.aload_n 0, 1) := by decide +kernel
theorem dX12_bestDay_17 : decode cX12_bestDay 17 = .ok (.getfield 3, 3) := by decide +kernel
theorem dX12_bestDay_20 : decode cX12_bestDay 20 = .ok (.iconst 2, 1) := by decide +kernel
theorem dX12_bestDay_21 : decode cX12_bestDay 21 = .ok (.iaload, 1) := by decide +kernel
theorem dX12_bestDay_22 : decode cX12_bestDay 22 = .ok (.if_icmp .ge 32, 3) := by decide +kernel
theorem dX12_bestDay_25 : decode cX12_bestDay 25 = .ok (.aload_n 0, 1) := by decide +kernel
theorem dX12_bestDay_26 : decode cX12_bestDay 26 = .ok (.iload_n 1, 1) := by decide +kernel
theorem dX12_bestDay_27 : decode cX12_bestDay 27 = .ok (.aload_n 0, 1) := by decide +kernel
theorem dX12_bestDay_28 : decode cX12_bestDay 28 = .ok (.getfield 3, 3) := by decide +kernel
theorem dX12_bestDay_31 : decode cX12_bestDay 31 = .ok (.iconst 2, 1) := by decide +kernel
theorem dX12_bestDay_32 : decode cX12_bestDay 32 = .ok (.iaload, 1) := by decide +kernel
theorem dX12_bestDay_33 : decode cX12_bestDay 33 = .ok (.invokevirtual 218, 3) := by decide +kernel
theorem dX12_bestDay_36 : decode cX12_bestDay 36 = .ok (.aload_n 0, 1) := by decide +kernel
theorem dX12_bestDay_37 : decode cX12_bestDay 37 = .ok (.iload_n 1, 1) := by decide +kernel
theorem dX12_bestDay_38 : decode cX12_bestDay 38 = .ok (.aload_n 0, 1) := by decide +kernel
theorem dX12_bestDay_39 : decode cX12_bestDay 39 = .ok (.getfield 3, 3) := by decide +kernel
theorem dX12_bestDay_42 : decode cX12_bestDay 42 = .ok (.iconst 1, 1) := by decide +kernel
theorem dX12_bestDay_43 : decode cX12_bestDay 43 = .ok (.iaload, 1) := by decide +kernel
theorem dX12_bestDay_44 : decode cX12_bestDay 44 = .ok (.invokevirtual 218, 3) := by decide +kernel
theorem dX12_bestDay_47 : decode cX12_bestDay 47 = .ok (.if_icmp .ge 7, 3) := by decide +kernel
theorem dX12_bestDay_50 : decode cX12_bestDay 50 = .ok (.iconst 1, 1) := by decide +kernel
theorem dX12_bestDay_51 : decode cX12_bestDay 51 = .ok (.goto 4, 3) := by decide +kernel
theorem dX12_bestDay_54 : decode cX12_bestDay 54 = .ok (.iconst 0, 1) := by decide +kernel
theorem dX12_bestDay_55 : decode cX12_bestDay 55 = .ok (.ireturn, 1) := by decide +kernel
theorem dX12_lastDay_0 : decode cX12_lastDay 0 = .ok (.aload_n 0, 1) := by decide +kernel
theorem dX12_lastDay_1 : decode cX12_lastDay 1 = .ok (.iload_n 1, 1) := by decide +kernel
theorem dX12_lastDay_2 : decode cX12_lastDay 2 = .ok (.invokevirtual 261, 3) := by decide +kernel
theorem dX12_lastDay_5 : decode cX12_lastDay 5 = .ok (.ifCond .ne 5, 3) := by decide +kernel
theorem dX12_lastDay_8 : decode cX12_lastDay 8 = .ok (.iconst (-1), 1) := by decide +kernel
theorem dX12_lastDay_9 : decode cX12_lastDay 9 = .ok (.ireturn, 1) := by decide +kernel
theorem dX12_lastDay_10 : decode cX12_lastDay 10 = .ok (.sipush 364, 3) := by decide +kernel
theorem dX12_lastDay_13 : decode cX12_lastDay 13 = .ok (.istore_n 3, 1) := by decide +kernel
theorem dX12_lastDay_14 : decode cX12_lastDay 14 = .ok (.iload_n 3, 1) := by decide +kernel
theorem dX12_lastDay_15 : decode cX12_lastDay 15 = .ok (.aload_n 0, 1) := by decide +kernel
theorem dX12_lastDay_16 : decode cX12_lastDay 16 = .ok (.getfield 3, 3) := by decide +kernel
theorem dX12_lastDay_19 : decode cX12_lastDay 19 = .ok (.iconst 1, 1) := by decide +kernel
theorem dX12_lastDay_20 : decode cX12_lastDay 20 = .ok (.iaload, 1) := by decide +kernel
theorem dX12_lastDay_21 : decode cX12_lastDay 21 = .ok (.if_icmp .lt 21, 3) := by decide +kernel
theorem dX12_lastDay_24 : decode cX12_lastDay 24 = .ok (.aload_n 0, 1) := by decide +kernel
theorem dX12_lastDay_25 : decode cX12_lastDay 25 = .ok (.iload_n 1, 1) := by decide +kernel
theorem dX12_lastDay_26 : decode cX12_lastDay 26 = .ok (.iload_n 3, 1) := by decide +kernel
theorem dX12_lastDay_27 : decode cX12_lastDay 27 = .ok (.invokevirtual 269, 3) := by decide +kernel
theorem dX12_lastDay_30 : decode cX12_lastDay 30 = .ok (.iload_n 2, 1) := by decide +kernel
theorem dX12_lastDay_31 : decode cX12_lastDay 31 = .ok (.if_icmp .lt 5, 3) := by decide +kernel
theorem dX12_lastDay_34 : decode cX12_lastDay 34 = .ok (.iload_n 3, 1) := by decide +kernel
theorem dX12_lastDay_35 : decode cX12_lastDay 35 = .ok (.ireturn, 1) := by decide +kernel
theorem dX12_lastDay_36 : decode cX12_lastDay 36 = .ok (.iinc 3 (-1), 3) := by decide +kernel
theorem dX12_lastDay_39 : decode cX12_lastDay 39 = .ok (.goto (-25), 3) := by decide +kernel
theorem dX12_lastDay_42 : decode cX12_lastDay 42 = .ok (.bipush (-2), 2) := by decide +kernel
theorem dX12_lastDay_44 : decode cX12_lastDay 44 = .ok (.ireturn, 1) := by decide +kernel
theorem dX12_freeYear_0 : decode cX12_freeYear 0 = .ok (.aload_n 0, 1) := by decide +kernel
theorem dX12_freeYear_1 : decode cX12_freeYear 1 = .ok (.iload_n 1, 1) := by decide +kernel
theorem dX12_freeYear_2 : decode cX12_freeYear 2 = .ok (.invokevirtual 206, 3) := by decide +kernel
theorem dX12_freeYear_5 : decode cX12_freeYear 5 = .ok (.ifCond .eq 11, 3) := by decide +kernel
theorem dX12_freeYear_8 : decode cX12_freeYear 8 = .ok (.aload_n 0, 1) := by decide +kernel
theorem dX12_freeYear_9 : decode cX12_freeYear 9 = .ok (.iload_n 1, 1) := by decide +kernel
theorem dX12_freeYear_10 : decode cX12_freeYear 10 = .ok (.invokevirtual 209, 3) := by decide +kernel
theorem dX12_freeYear_13 : decode cX12_freeYear 13 = .ok (.ifCond .ne 5, 3) := by decide +kernel
theorem dX12_freeYear_16 : decode cX12_freeYear 16 = .ok (.iconst (-1), 1) := by decide +kernel
theorem dX12_freeYear_17 : decode cX12_freeYear 17 = .ok (.ireturn, 1) := by decide +kernel
theorem dX12_freeYear_18 : decode cX12_freeYear 18 = .ok (.aload_n 0, 1) := by decide +kernel
theorem dX12_freeYear_19 : decode cX12_freeYear 19 = .ok (.getfield 3, 3) := by decide +kernel
theorem dX12_freeYear_22 : decode cX12_freeYear 22 = .ok (.iconst 0, 1) := by decide +kernel
theorem dX12_freeYear_23 : decode cX12_freeYear 23 = .ok (.iaload, 1) := by decide +kernel
theorem dX12_freeYear_24 : decode cX12_freeYear 24 = .ok (.aload_n 0, 1) := by decide +kernel
theorem dX12_freeYear_25 : decode cX12_freeYear 25 = .ok (.iload_n 1, 1) := by decide +kernel
theorem dX12_freeYear_26 : decode cX12_freeYear 26 = .ok (.iconst 0, 1) := by decide +kernel
theorem dX12_freeYear_27 : decode cX12_freeYear 27 = .ok (.invokevirtual 115, 3) := by decide +kernel
theorem dX12_freeYear_30 : decode cX12_freeYear 30 = .ok (.invokestatic 224, 3) := by decide +kernel
theorem dX12_freeYear_33 : decode cX12_freeYear 33 = .ok (.istore_n 2, 1) := by decide +kernel
theorem dX12_freeYear_34 : decode cX12_freeYear 34 = .ok (.iload_n 2, 1) := by decide +kernel
theorem dX12_freeYear_35 : decode cX12_freeYear 35 = .ok (.aload_n 0, 1) := by decide +kernel
theorem dX12_freeYear_36 : decode cX12_freeYear 36 = .ok (.iload_n 1, 1) := by decide +kernel
theorem dX12_freeYear_37 : decode cX12_freeYear 37 = .ok (.invokevirtual 132, 3) := by decide +kernel
theorem dX12_freeYear_40 : decode cX12_freeYear 40 = .ok (.if_icmp .ge 58, 3) := by decide +kernel
theorem dX12_freeYear_43 : decode cX12_freeYear 43 = .ok (.aload_n 0, 1) := by decide +kernel
theorem dX12_freeYear_44 : decode cX12_freeYear 44 = .ok (.iload_n 1, 1) := by decide +kernel
theorem dX12_freeYear_45 : decode cX12_freeYear 45 = .ok (.iload_n 2, 1) := by decide +kernel
theorem dX12_freeYear_46 : decode cX12_freeYear 46 = .ok (.invokevirtual 215, 3) := by decide +kernel
theorem dX12_freeYear_49 : decode cX12_freeYear 49 = .ok (.aload_n 0, 1) := by decide +kernel
theorem dX12_freeYear_50 : decode cX12_freeYear 50 = .ok (.getfield 3, 3) := by decide +kernel
theorem dX12_freeYear_53 : decode cX12_freeYear 53 = .ok (.iconst 3, 1) := by decide +kernel
theorem dX12_freeYear_54 : decode cX12_freeYear 54 = .ok (.iaload, 1) := by decide +kernel
theorem dX12_freeYear_55 : decode cX12_freeYear 55 = .ok (.ifCond .ne 15, 3) := by decide +kernel
theorem dX12_freeYear_58 : decode cX12_freeYear 58 = .ok (.aload_n 0, 1) := by decide +kernel
theorem dX12_freeYear_59 : decode cX12_freeYear 59 = .ok (.iload_n 1, 1) := by decide +kernel
theorem dX12_freeYear_60 : decode cX12_freeYear 60 = .ok (.bipush 26, 2) := by decide +kernel
theorem dX12_freeYear_62 : decode cX12_freeYear 62 = .ok (.iload_n 2, 1) := by decide +kernel
theorem dX12_freeYear_63 : decode cX12_freeYear 63 = .ok (.iadd, 1) := by decide +kernel
theorem dX12_freeYear_64 : decode cX12_freeYear 64 = .ok (.invokevirtual 115, 3) := by decide +kernel
theorem dX12_freeYear_67 : decode cX12_freeYear 67 = .ok (.goto 4, 3) := by decide +kernel
theorem dX12_freeYear_70 : decode cX12_freeYear 70 = .ok (.iconst 0, 1) := by decide +kernel
theorem dX12_freeYear_71 : decode cX12_freeYear 71 = .ok (.iadd, 1) := by decide +kernel
theorem dX12_freeYear_72 : decode cX12_freeYear 72 = .ok (.aload_n 0, 1) := by decide +kernel
theorem dX12_freeYear_73 : decode cX12_freeYear 73 = .ok (.iload_n 1, 1) := by decide +kernel
theorem dX12_freeYear_74 : decode cX12_freeYear 74 = .ok (.iload_n 2, 1) := by decide +kernel
theorem dX12_freeYear_75 : decode cX12_freeYear 75 = .ok (.invokevirtual 212, 3) := by decide +kernel
theorem dX12_freeYear_78 : decode cX12_freeYear 78 = .ok (.iadd, 1) := by decide +kernel
theorem dX12_freeYear_79 : decode cX12_freeYear 79 = .ok (.istore_n 3, 1) := by decide +kernel
theorem dX12_freeYear_80 : decode cX12_freeYear 80 = .ok (.iload_n 3, 1) := by decide +kernel
theorem dX12_freeYear_81 : decode cX12_freeYear 81 = .ok (.aload_n 0, 1) := by decide +kernel
theorem dX12_freeYear_82 : decode cX12_freeYear 82 = .ok (.iload_n 1, 1) := by decide +kernel
theorem dX12_freeYear_83 : decode cX12_freeYear 83 = .ok (.iload_n 2, 1) := by decide +kernel
theorem dX12_freeYear_84 : decode cX12_freeYear 84 = .ok (.invokevirtual 230, 3) := by decide +kernel
theorem dX12_freeYear_87 : decode cX12_freeYear 87 = .ok (.if_icmp .ge 5, 3) := by decide +kernel
theorem dX12_freeYear_90 : decode cX12_freeYear 90 = .ok (.iload_n 2, 1) := by decide +kernel
theorem dX12_freeYear_91 : decode cX12_freeYear 91 = .ok (.ireturn, 1) := by decide +kernel
theorem dX12_freeYear_92 : decode cX12_freeYear 92 = .ok (.iinc 2 1, 3) := by decide +kernel
theorem dX12_freeYear_95 : decode cX12_freeYear 95 = .ok (.goto (-61), 3) := by decide +kernel
theorem dX12_freeYear_98 : decode cX12_freeYear 98 = .ok (.bipush (-2), 2) := by decide +kernel
theorem dX12_freeYear_100 : decode cX12_freeYear 100 = .ok (.ireturn, 1) := by decide +kernel
theorem dX12_coins_0 : decode cX12_coins 0 = .ok (.aload_n 0, 1) := by decide +kernel
theorem dX12_coins_1 : decode cX12_coins 1 = .ok (.iload_n 1, 1) := by decide +kernel
theorem dX12_coins_2 : decode cX12_coins 2 = .ok (.invokevirtual 206, 3) := by decide +kernel
theorem dX12_coins_5 : decode cX12_coins 5 = .ok (.ifCond .eq 15, 3) := by decide +kernel
theorem dX12_coins_8 : decode cX12_coins 8 = .ok (.iload_n 2, 1) := by decide +kernel
theorem dX12_coins_9 : decode cX12_coins 9 = .ok (.i2l, 1) := by decide +kernel
theorem dX12_coins_10 : decode cX12_coins 10 = .ok (.lconst 0, 1) := by decide +kernel
theorem dX12_coins_11 : decode cX12_coins 11 = .ok (.ldc2_w 264, 3) := by decide +kernel
theorem dX12_coins_14 : decode cX12_coins 14 = .ok (.invokestatic 68, 3) := by decide +kernel
theorem dX12_coins_17 : decode cX12_coins 17 = .ok (.ifCond .ne 5, 3) := by decide +kernel
theorem dX12_coins_20 : decode cX12_coins 20 = .ok (.iconst (-1), 1) := by decide +kernel
theorem dX12_coins_21 : decode cX12_coins 21 = .ok (.ireturn, 1) := by decide +kernel
theorem dX12_coins_22 : decode cX12_coins 22 = .ok (.aload_n 0, 1) := by decide +kernel
theorem dX12_coins_23 : decode cX12_coins 23 = .ok (.iload_n 1, 1) := by decide +kernel
theorem dX12_coins_24 : decode cX12_coins 24 = .ok (.invokevirtual 209, 3) := by decide +kernel
theorem dX12_coins_27 : decode cX12_coins 27 = .ok (.ifCond .eq 14, 3) := by decide +kernel
theorem dX12_coins_30 : decode cX12_coins 30 = .ok (.aload_n 0, 1) := by decide +kernel
theorem dX12_coins_31 : decode cX12_coins 31 = .ok (.getfield 3, 3) := by decide +kernel
theorem dX12_coins_34 : decode cX12_coins 34 = .ok (.iconst 0, 1) := by decide +kernel
theorem dX12_coins_35 : decode cX12_coins 35 = .ok (.iaload, 1) := by decide +kernel
theorem dX12_coins_36 : decode cX12_coins 36 = .ok (.iconst 1, 1) := by decide +kernel
theorem dX12_coins_37 : decode cX12_coins 37 = .ok (.iadd, 1) := by decide +kernel
theorem dX12_coins_38 : decode cX12_coins 38 = .ok (.goto 9, 3) := by decide +kernel
theorem dX12_coins_41 : decode cX12_coins 41 = .ok (.aload_n 0, 1) := by decide +kernel
theorem dX12_coins_42 : decode cX12_coins 42 = .ok (.iload_n 1, 1) := by decide +kernel
theorem dX12_coins_43 : decode cX12_coins 43 = .ok (.iconst 5, 1) := by decide +kernel
theorem dX12_coins_44 : decode cX12_coins 44 = .ok (.invokevirtual 115, 3) := by decide +kernel
theorem dX12_coins_47 : decode cX12_coins 47 = .ok (.istore_n 3, 1) := by decide +kernel
theorem dX12_coins_48 : decode cX12_coins 48 = .ok (.aload_n 0, 1) := by decide +kernel
theorem dX12_coins_49 : decode cX12_coins 49 = .ok (.iload_n 1, 1) := by decide +kernel
theorem dX12_coins_50 : decode cX12_coins 50 = .ok (.iload_n 3, 1) := by decide +kernel
theorem dX12_coins_51 : decode cX12_coins 51 = .ok (.invokevirtual 212, 3) := by decide +kernel
theorem dX12_coins_54 : decode cX12_coins 54 = .ok (.istore 4, 2) := by decide +kernel
theorem dX12_coins_56 : decode cX12_coins 56 = .ok (.iload_n 2, 1) := by decide +kernel
theorem dX12_coins_57 : decode cX12_coins 57 = .ok (.ifCond .ne 12, 3) := by decide +kernel
theorem dX12_coins_60 : decode cX12_coins 60 = .ok (.aload_n 0, 1) := by decide +kernel
theorem dX12_coins_61 : decode cX12_coins 61 = .ok (.iload_n 1, 1) := by decide +kernel
theorem dX12_coins_62 : decode cX12_coins 62 = .ok (.iconst 0, 1) := by decide +kernel
theorem dX12_coins_63 : decode cX12_coins 63 = .ok (.invokevirtual 212, 3) := by decide +kernel
theorem dX12_coins_66 : decode cX12_coins 66 = .ok (.goto 44, 3) := by decide +kernel
theorem dX12_coins_69 : decode cX12_coins 69 = .ok (.iload_n 2, 1) := by decide +kernel
theorem dX12_coins_70 : decode cX12_coins 70 = .ok (.iconst 1, 1) := by decide +kernel
theorem dX12_coins_71 : decode cX12_coins 71 = .ok (.if_icmp .ne 15, 3) := by decide +kernel
theorem dX12_coins_74 : decode cX12_coins 74 = .ok (.aload_n 0, 1) := by decide +kernel
theorem dX12_coins_75 : decode cX12_coins 75 = .ok (.iload_n 1, 1) := by decide +kernel
theorem dX12_coins_76 : decode cX12_coins 76 = .ok (.iconst 0, 1) := by decide +kernel
theorem dX12_coins_77 : decode cX12_coins 77 = .ok (.invokevirtual 212, 3) := by decide +kernel
theorem dX12_coins_80 : decode cX12_coins 80 = .ok (.iload 4, 2) := by decide +kernel
theorem dX12_coins_82 : decode cX12_coins 82 = .ok (.isub, 1) := by decide +kernel
theorem dX12_coins_83 : decode cX12_coins 83 = .ok (.goto 27, 3) := by decide +kernel
theorem dX12_coins_86 : decode cX12_coins 86 = .ok (.iload_n 2, 1) := by decide +kernel
theorem dX12_coins_87 : decode cX12_coins 87 = .ok (.iconst 2, 1) := by decide +kernel
theorem dX12_coins_88 : decode cX12_coins 88 = .ok (.if_icmp .ne 7, 3) := by decide +kernel
theorem dX12_coins_91 : decode cX12_coins 91 = .ok (.iconst 1, 1) := by decide +kernel
theorem dX12_coins_92 : decode cX12_coins 92 = .ok (.goto 4, 3) := by decide +kernel
theorem dX12_coins_95 : decode cX12_coins 95 = .ok (.iconst 0, 1) := by decide +kernel
theorem dX12_coins_96 : decode cX12_coins 96 = .ok (.aload_n 0, 1) := by decide +kernel
theorem dX12_coins_97 : decode cX12_coins 97 = .ok (.iload_n 1, 1) := by decide +kernel
theorem dX12_coins_98 : decode cX12_coins 98 = .ok (.invokevirtual 209, 3) := by decide +kernel
theorem dX12_coins_101 : decode cX12_coins 101 = .ok (.if_icmp .ne 7, 3) := by decide +kernel
theorem dX12_coins_104 : decode cX12_coins 104 = .ok (.iconst 0, 1) := by decide +kernel
theorem dX12_coins_105 : decode cX12_coins 105 = .ok (.goto 5, 3) := by decide +kernel
theorem dX12_coins_108 : decode cX12_coins 108 = .ok (.iload 4, 2) := by decide +kernel
theorem dX12_coins_110 : decode cX12_coins 110 = .ok (.ireturn, 1) := by decide +kernel
theorem dX12_cashOf_0 : decode cX12_cashOf 0 = .ok (.aload_n 0, 1) := by decide +kernel
theorem dX12_cashOf_1 : decode cX12_cashOf 1 = .ok (.iload_n 1, 1) := by decide +kernel
theorem dX12_cashOf_2 : decode cX12_cashOf 2 = .ok (.bipush 66, 2) := by decide +kernel
theorem dX12_cashOf_4 : decode cX12_cashOf 4 = .ok (.iload_n 2, 1) := by decide +kernel
theorem dX12_cashOf_5 : decode cX12_cashOf 5 = .ok (.iadd, 1) := by decide +kernel
theorem dX12_cashOf_6 : decode cX12_cashOf 6 = .ok (.invokevirtual 115, 3) := by decide +kernel
theorem dX12_cashOf_9 : decode cX12_cashOf 9 = .ok (.aload_n 0, 1) := by decide +kernel
theorem dX12_cashOf_10 : decode cX12_cashOf 10 = .ok (.iload_n 1, 1) := by decide +kernel
theorem dX12_cashOf_11 : decode cX12_cashOf 11 = .ok (.invokevirtual 209, 3) := by decide +kernel
theorem dX12_cashOf_14 : decode cX12_cashOf 14 = .ok (.ifCond .ne 13, 3) := by decide +kernel
theorem dX12_cashOf_17 : decode cX12_cashOf 17 = .ok (.iload_n 2, 1) := by decide +kernel
theorem dX12_cashOf_18 : decode cX12_cashOf 18 = .ok (.aload_n 0, 1) := by decide +kernel
theorem dX12_cashOf_19 : decode cX12_cashOf 19 = .ok (.iload_n 1, 1) := by decide +kernel
theorem dX12_cashOf_20 : decode cX12_cashOf 20 = .ok (.iconst 5, 1) := by decide +kernel
theorem dX12_cashOf_21 : decode cX12_cashOf 21 = .ok (.invokevirtual 115, 3) := by decide +kernel
theorem dX12_cashOf_24 : decode cX12_cashOf 24 = .ok (.if_icmp .ge 25, 3) := by decide +kernel
theorem dX12_cashOf_27 : decode cX12_cashOf 27 = .ok (.aload_n 0, 1) := by decide +kernel
theorem dX12_cashOf_28 : decode cX12_cashOf 28 = .ok (.iload_n 1, 1) := by decide +kernel
theorem dX12_cashOf_29 : decode cX12_cashOf 29 = .ok (.bipush 6, 2) := by decide +kernel
theorem dX12_cashOf_31 : decode cX12_cashOf 31 = .ok (.iload_n 2, 1) := by decide +kernel
theorem dX12_cashOf_32 : decode cX12_cashOf 32 = .ok (.iadd, 1) := by decide +kernel
theorem dX12_cashOf_33 : decode cX12_cashOf 33 = .ok (.invokevirtual 115, 3) := by decide +kernel
theorem dX12_cashOf_36 : decode cX12_cashOf 36 = .ok (.aload_n 0, 1) := by decide +kernel
theorem dX12_cashOf_37 : decode cX12_cashOf 37 = .ok (.iload_n 1, 1) := by decide +kernel
theorem dX12_cashOf_38 : decode cX12_cashOf 38 = .ok (.bipush 26, 2) := by decide +kernel
theorem dX12_cashOf_40 : decode cX12_cashOf 40 = .ok (.iload_n 2, 1) := by decide +kernel
theorem dX12_cashOf_41 : decode cX12_cashOf 41 = .ok (.iadd, 1) := by decide +kernel
theorem dX12_cashOf_42 : decode cX12_cashOf 42 = .ok (.invokevirtual 115, 3) := by decide +kernel
theorem dX12_cashOf_45 : decode cX12_cashOf 45 = .ok (.iadd, 1) := by decide +kernel
theorem dX12_cashOf_46 : decode cX12_cashOf 46 = .ok (.goto 4, 3) := by decide +kernel
theorem dX12_cashOf_49 : decode cX12_cashOf 49 = .ok (.iconst 0, 1) := by decide +kernel
theorem dX12_cashOf_50 : decode cX12_cashOf 50 = .ok (.iadd, 1) := by decide +kernel
theorem dX12_cashOf_51 : decode cX12_cashOf 51 = .ok (.ireturn, 1) := by decide +kernel
theorem dX12_cash_0 : decode cX12_cash 0 = .ok (.aload_n 0, 1) := by decide +kernel
theorem dX12_cash_1 : decode cX12_cash 1 = .ok (.iload_n 1, 1) := by decide +kernel
theorem dX12_cash_2 : decode cX12_cash 2 = .ok (.invokevirtual 206, 3) := by decide +kernel
theorem dX12_cash_5 : decode cX12_cash 5 = .ok (.ifCond .eq 19, 3) := by decide +kernel
theorem dX12_cash_8 : decode cX12_cash 8 = .ok (.iload_n 2, 1) := by decide +kernel
theorem dX12_cash_9 : decode cX12_cash 9 = .ok (.invokestatic 253, 3) := by decide +kernel
theorem dX12_cash_12 : decode cX12_cash 12 = .ok (.ifCond .eq 12, 3) := by decide +kernel
theorem dX12_cash_15 : decode cX12_cash 15 = .ok (.aload_n 0, 1) := by decide +kernel
theorem dX12_cash_16 : decode cX12_cash 16 = .ok (.iload_n 1, 1) := by decide +kernel
theorem dX12_cash_17 : decode cX12_cash 17 = .ok (.iload_n 2, 1) := by decide +kernel
theorem dX12_cash_18 : decode cX12_cash 18 = .ok (.invokevirtual 350, 3) := by decide +kernel
theorem dX12_cash_21 : decode cX12_cash 21 = .ok (.goto 4, 3) := by decide +kernel
theorem dX12_cash_24 : decode cX12_cash 24 = .ok (.iconst (-1), 1) := by decide +kernel
theorem dX12_cash_25 : decode cX12_cash 25 = .ok (.ireturn, 1) := by decide +kernel
theorem dX12_allCash_0 : decode cX12_allCash 0 = .ok (.iload_n 1, 1) := by decide +kernel
theorem dX12_allCash_1 : decode cX12_allCash 1 = .ok (.invokestatic 253, 3) := by decide +kernel
theorem dX12_allCash_4 : decode cX12_allCash 4 = .ok (.ifCond .ne 5, 3) := by decide +kernel
theorem dX12_allCash_7 : decode cX12_allCash 7 = .ok (.iconst (-1), 1) := by decide +kernel
theorem dX12_allCash_8 : decode cX12_allCash 8 = .ok (.ireturn, 1) := by decide +kernel
theorem dX12_allCash_9 : decode cX12_allCash 9 = .ok (.iconst 0, 1) := by decide +kernel
theorem dX12_allCash_10 : decode cX12_allCash 10 = .ok (.istore_n 2, 1) := by decide +kernel
theorem dX12_allCash_11 : decode cX12_allCash 11 = .ok (.iconst 0, 1) := by decide +kernel
theorem dX12_allCash_12 : decode cX12_allCash 12 = .ok (.istore_n 3, 1) := by decide +kernel
theorem dX12_allCash_13 : decode cX12_allCash 13 = .ok (.iload_n 3, 1) := by decide +kernel
theorem dX12_allCash_14 : decode cX12_allCash 14 = .ok (.aload_n 0, 1) := by decide +kernel
theorem dX12_allCash_15 : decode cX12_allCash 15 = .ok (.getfield 3, 3) := by decide +kernel
theorem dX12_allCash_18 : decode cX12_allCash 18 = .ok (.bipush 7, 2) := by decide +kernel
theorem dX12_allCash_20 : decode cX12_allCash 20 = .ok (.iaload, 1) := by decide +kernel
theorem dX12_allCash_21 : decode cX12_allCash 21 = .ok (.if_icmp .ge 18, 3) := by decide +kernel
theorem dX12_allCash_24 : decode cX12_allCash 24 = .ok (.iload_n 2, 1) := by decide +kernel
theorem dX12_allCash_25 : decode cX12_allCash 25 = .ok (.aload_n 0, 1) := by decide +kernel
theorem dX12_allCash_26 : decode cX12_allCash 26 = .ok (.iload_n 3, 1) := by decide +kernel
theorem dX12_allCash_27 : decode cX12_allCash 27 = .ok (.iload_n 1, 1) := by decide +kernel
theorem dX12_allCash_28 : decode cX12_allCash 28 = .ok (.invokevirtual 350, 3) := by decide +kernel
theorem dX12_allCash_31 : decode cX12_allCash 31 = .ok (.iadd, 1) := by decide +kernel
theorem dX12_allCash_32 : decode cX12_allCash 32 = .ok (.istore_n 2, 1) := by decide +kernel
theorem dX12_allCash_33 : decode cX12_allCash 33 = .ok (.iinc 3 1, 3) := by decide +kernel
theorem dX12_allCash_36 : decode cX12_allCash 36 = .ok (.goto (-23), 3) := by decide +kernel
theorem dX12_allCash_39 : decode cX12_allCash 39 = .ok (.iload_n 2, 1) := by decide +kernel
theorem dX12_allCash_40 : decode cX12_allCash 40 = .ok (.ireturn, 1) := by decide +kernel
theorem dX12_floor_0 : decode cX12_floor 0 = .ok (.iload_n 1, 1) := by decide +kernel
theorem dX12_floor_1 : decode cX12_floor 1 = .ok (.invokestatic 253, 3) := by decide +kernel
theorem dX12_floor_4 : decode cX12_floor 4 = .ok (.ifCond .eq 15, 3) := by decide +kernel
theorem dX12_floor_7 : decode cX12_floor 7 = .ok (.iload_n 2, 1) := by decide +kernel
theorem dX12_floor_8 : decode cX12_floor 8 = .ok (.i2l, 1) := by decide +kernel
theorem dX12_floor_9 : decode cX12_floor 9 = .ok (.lconst 0, 1) := by decide +kernel
theorem dX12_floor_10 : decode cX12_floor 10 = .ok (.ldc2_w 300, 3) := by decide +kernel
theorem dX12_floor_13 : decode cX12_floor 13 = .ok (.invokestatic 68, 3) := by decide +kernel
theorem dX12_floor_16 : decode cX12_floor 16 = .ok (.ifCond .ne 5, 3) := by decide +kernel
theorem dX12_floor_19 : decode cX12_floor 19 = .ok (.iconst (-1), 1) := by decide +kernel
theorem dX12_floor_20 : decode cX12_floor 20 = .ok (.ireturn, 1) := by decide +kernel
theorem dX12_floor_21 : decode cX12_floor 21 = .ok (.iconst 0, 1) := by decide +kernel
theorem dX12_floor_22 : decode cX12_floor 22 = .ok (.istore_n 3, 1) := by decide +kernel
theorem dX12_floor_23 : decode cX12_floor 23 = .ok (.iconst 0, 1) := by decide +kernel
theorem dX12_floor_24 : decode cX12_floor 24 = .ok (.istore 4, 2) := by decide +kernel
theorem dX12_floor_26 : decode cX12_floor 26 = .ok (.iload_n 1, 1) := by decide +kernel
theorem dX12_floor_27 : decode cX12_floor 27 = .ok (.istore 5, 2) := by decide +kernel
theorem dX12_floor_29 : decode cX12_floor 29 = .ok (.iload 5, 2) := by decide +kernel
theorem dX12_floor_31 : decode cX12_floor 31 = .ok (.bipush 20, 2) := by decide +kernel
theorem dX12_floor_33 : decode cX12_floor 33 = .ok (.iload_n 1, 1) := by decide +kernel
theorem dX12_floor_34 : decode cX12_floor 34 = .ok (.iconst 4, 1) := by decide +kernel
theorem dX12_floor_35 : decode cX12_floor 35 = .ok (.iadd, 1) := by decide +kernel
theorem dX12_floor_36 : decode cX12_floor 36 = .ok (.invokestatic 122, 3) := by decide +kernel
theorem dX12_floor_39 : decode cX12_floor 39 = .ok (.if_icmp .ge 33, 3) := by decide +kernel
theorem dX12_floor_42 : decode cX12_floor 42 = .ok (.iload_n 3, 1) := by decide +kernel
theorem dX12_floor_43 : decode cX12_floor 43 = .ok (.aload_n 0, 1) := by decide +kernel
theorem dX12_floor_44 : decode cX12_floor 44 = .ok (.iload 5, 2) := by decide +kernel
theorem dX12_floor_46 : decode cX12_floor 46 = .ok (.invokevirtual 353, 3) := by decide +kernel
theorem dX12_floor_49 : decode cX12_floor 49 = .ok (.iadd, 1) := by decide +kernel
theorem dX12_floor_50 : decode cX12_floor 50 = .ok (.istore_n 3, 1) := by decide +kernel
theorem dX12_floor_51 : decode cX12_floor 51 = .ok (.iload 4, 2) := by decide +kernel
theorem dX12_floor_53 : decode cX12_floor 53 = .ok (.aload_n 0, 1) := by decide +kernel
theorem dX12_floor_54 : decode cX12_floor 54 = .ok (.getfield 3, 3) := by decide +kernel
theorem dX12_floor_57 : decode cX12_floor 57 = .ok (.bipush 10, 2) := by decide +kernel
theorem dX12_floor_59 : decode cX12_floor 59 = .ok (.iload 5, 2) := by decide +kernel
theorem dX12_floor_61 : decode cX12_floor 61 = .ok (.iadd, 1) := by decide +kernel
theorem dX12_floor_62 : decode cX12_floor 62 = .ok (.iaload, 1) := by decide +kernel
theorem dX12_floor_63 : decode cX12_floor 63 = .ok (.iadd, 1) := by decide +kernel
theorem dX12_floor_64 : decode cX12_floor 64 = .ok (.istore 4, 2) := by decide +kernel
theorem dX12_floor_66 : decode cX12_floor 66 = .ok (.iinc 5 1, 3) := by decide +kernel
theorem dX12_floor_69 : decode cX12_floor 69 = .ok (.goto (-40), 3) := by decide +kernel
theorem dX12_floor_72 : decode cX12_floor 72 = .ok (.iload 4, 2) := by decide +kernel
theorem dX12_floor_74 : decode cX12_floor 74 = .ok (.bipush 89, 2) := by decide +kernel
theorem dX12_floor_76 : decode cX12_floor 76 = .ok (.imul, 1) := by decide +kernel
theorem dX12_floor_77 : decode cX12_floor 77 = .ok (.bipush 100, 2) := by decide +kernel
theorem dX12_floor_79 : decode cX12_floor 79 = .ok (.idiv, 1) := by decide +kernel
theorem dX12_floor_80 : decode cX12_floor 80 = .ok (.istore 5, 2) := by decide +kernel
theorem dX12_floor_82 : decode cX12_floor 82 = .ok (.iload_n 2, 1) := by decide +kernel
theorem dX12_floor_83 : decode cX12_floor 83 = .ok (.ifCond .ne 7, 3) := by decide +kernel
theorem dX12_floor_86 : decode cX12_floor 86 = .ok (.iload_n 3, 1) := by decide +kernel
theorem dX12_floor_87 : decode cX12_floor 87 = .ok (.goto 21, 3) := by decide +kernel
theorem dX12_floor_90 : decode cX12_floor 90 = .ok (.iload_n 2, 1) := by decide +kernel
theorem dX12_floor_91 : decode cX12_floor 91 = .ok (.iconst 1, 1) := by decide +kernel
theorem dX12_floor_92 : decode cX12_floor 92 = .ok (.if_icmp .ne 8, 3) := by decide +kernel
theorem dX12_floor_95 : decode cX12_floor 95 = .ok (.iload 5, 2) := by decide +kernel
theorem dX12_floor_97 : decode cX12_floor 97 = .ok (.goto 11, 3) := by decide +kernel
theorem dX12_floor_100 : decode cX12_floor 100 = .ok (.iconst 0, 1) := by decide +kernel
theorem dX12_floor_101 : decode cX12_floor 101 = .ok (.iload 5, 2) := by decide +kernel
theorem dX12_floor_103 : decode cX12_floor 103 = .ok (.iload_n 3, 1) := by decide +kernel
theorem dX12_floor_104 : decode cX12_floor 104 = .ok (.isub, 1) := by decide +kernel
theorem dX12_floor_105 : decode cX12_floor 105 = .ok (.invokestatic 224, 3) := by decide +kernel
theorem dX12_floor_108 : decode cX12_floor 108 = .ok (.ireturn, 1) := by decide +kernel
theorem dX12_placed_0 : decode cX12_placed 0 = .ok (.iconst 0, 1) := by decide +kernel
theorem dX12_placed_1 : decode cX12_placed 1 = .ok (.istore_n 3, 1) := by decide +kernel
theorem dX12_placed_2 : decode cX12_placed 2 = .ok (.iload_n 3, 1) := by decide +kernel
theorem dX12_placed_3 : decode cX12_placed 3 = .ok (.aload_n 0, 1) := by decide +kernel
theorem dX12_placed_4 : decode cX12_placed 4 = .ok (.getfield 3, 3) := by decide +kernel
theorem dX12_placed_7 : decode cX12_placed 7 = .ok (.bipush 7, 2) := by decide +kernel
theorem dX12_placed_9 : decode cX12_placed 9 = .ok (.iaload, 1) := by decide +kernel
theorem dX12_placed_10 : decode cX12_placed 10 = .ok (.if_icmp .ge 109, 3) := by decide +kernel
theorem dX12_placed_13 : decode cX12_placed 13 = .ok (.aload_n 0, 1) := by decide +kernel
theorem dX12_placed_14 : decode cX12_placed 14 = .ok (.iload_n 3, 1) := by decide +kernel
theorem dX12_placed_15 : decode cX12_placed 15 = .ok (.invokevirtual 209, 3) := by decide +kernel
theorem dX12_placed_18 : decode cX12_placed 18 = .ok (.ifCond .ne 6, 3) := by decide +kernel
theorem dX12_placed_21 : decode cX12_placed 21 = .ok (.goto 92, 3) := by decide +kernel
theorem dX12_placed_24 : decode cX12_placed 24 = .ok (.iconst 0, 1) := by decide +kernel
theorem dX12_placed_25 : decode cX12_placed 25 = .ok (.istore 4, 2) := by decide +kernel
theorem dX12_placed_27 : decode cX12_placed 27 = .ok (.iconst 0, 1) := by decide +kernel
theorem dX12_placed_28 : decode cX12_placed 28 = .ok (.istore 5, 2) := by decide +kernel
theorem dX12_placed_30 : decode cX12_placed 30 = .ok (.iload 5, 2) := by decide +kernel
theorem dX12_placed_32 : decode cX12_placed 32 = .ok (.aload_n 0, 1) := by decide +kernel
theorem dX12_placed_33 : decode cX12_placed 33 = .ok (.getfield 3, 3) := by decide +kernel
theorem dX12_placed_36 : decode cX12_placed 36 = .ok (.bipush 7, 2) := by decide +kernel
theorem dX12_placed_38 : decode cX12_placed 38 = .ok (.iaload, 1) := by decide +kernel
theorem dX12_placed_39 : decode cX12_placed 39 = .ok (.if_icmp .ge 66, 3) := by decide +kernel
theorem dX12_placed_42 : decode cX12_placed 42 = .ok (.iload 4, 2) := by decide +kernel
theorem dX12_placed_44 : decode cX12_placed 44 = .ok (.aload_n 0, 1) := by decide +kernel
theorem dX12_placed_45 : decode cX12_placed 45 = .ok (.iload 5, 2) := by decide +kernel
theorem dX12_placed_47 : decode cX12_placed 47 = .ok (.invokevirtual 209, 3) := by decide +kernel
theorem dX12_placed_50 : decode cX12_placed 50 = .ok (.ifCond .eq 45, 3) := by decide +kernel
theorem dX12_placed_53 : decode cX12_placed 53 = .ok (.aload_n 0, 1) := by decide +kernel
theorem dX12_placed_54 : decode cX12_placed 54 = .ok (.iload 5, 2) := by decide +kernel
theorem dX12_placed_56 : decode cX12_placed 56 = .ok (.iload_n 2, 1) := by decide +kernel
theorem dX12_placed_57 : decode cX12_placed 57 = .ok (.invokevirtual 230, 3) := by decide +kernel
theorem dX12_placed_60 : decode cX12_placed 60 = .ok (.aload_n 0, 1) := by decide +kernel
theorem dX12_placed_61 : decode cX12_placed 61 = .ok (.iload_n 3, 1) := by decide +kernel
theorem dX12_placed_62 : decode cX12_placed 62 = .ok (.iload_n 2, 1) := by decide +kernel
theorem dX12_placed_63 : decode cX12_placed 63 = .ok (.invokevirtual 230, 3) := by decide +kernel
theorem dX12_placed_66 : decode cX12_placed 66 = .ok (.if_icmp .gt 25, 3) := by decide +kernel
theorem dX12_placed_69 : decode cX12_placed 69 = .ok (.aload_n 0, 1) := by decide +kernel
theorem dX12_placed_70 : decode cX12_placed 70 = .ok (.iload 5, 2) := by decide +kernel
theorem dX12_placed_72 : decode cX12_placed 72 = .ok (.iload_n 2, 1) := by decide +kernel
theorem dX12_placed_73 : decode cX12_placed 73 = .ok (.invokevirtual 230, 3) := by decide +kernel
theorem dX12_placed_76 : decode cX12_placed 76 = .ok (.aload_n 0, 1) := by decide +kernel
theorem dX12_placed_77 : decode cX12_placed 77 = .ok (.iload_n 3, 1) := by decide +kernel
theorem dX12_placed_78 : decode cX12_placed 78 = .ok (.iload_n 2, 1) := by decide +kernel
theorem dX12_placed_79 : decode cX12_placed 79 = .ok (.invokevirtual 230, 3) := by decide +kernel
theorem dX12_placed_82 : decode cX12_placed 82 = .ok (.if_icmp .ne 13, 3) := by decide +kernel
theorem dX12_placed_85 : decode cX12_placed 85 = .ok (.iload 5, 2) := by decide +kernel
theorem dX12_placed_87 : decode cX12_placed 87 = .ok (.iload_n 3, 1) := by decide +kernel
theorem dX12_placed_88 : decode cX12_placed 88 = .ok (.if_icmp .ge 7, 3) := by decide +kernel
theorem dX12_placed_91 : decode cX12_placed 91 = .ok (.iconst 1, 1) := by decide +kernel
theorem dX12_placed_92 : decode cX12_placed 92 = .ok (.goto 4, 3) := by decide +kernel
theorem dX12_placed_95 : decode cX12_placed 95 = .ok (.iconst 0, 1) := by decide +kernel
theorem dX12_placed_96 : decode cX12_placed 96 = .ok (.iadd, 1) := by decide +kernel
theorem dX12_placed_97 : decode cX12_placed 97 = .ok (.istore 4, 2) := by decide +kernel
theorem dX12_placed_99 : decode cX12_placed 99 = .ok (.iinc 5 1, 3) := by decide +kernel
theorem dX12_placed_102 : decode cX12_placed 102 = .ok (.goto (-72), 3) := by decide +kernel
theorem dX12_placed_105 : decode cX12_placed 105 = .ok (.iload 4, 2) := by decide +kernel
theorem dX12_placed_107 : decode cX12_placed 107 = .ok (.iload_n 1, 1) := by decide +kernel
theorem dX12_placed_108 : decode cX12_placed 108 = .ok (.if_icmp .ne 5, 3) := by decide +kernel
theorem dX12_placed_111 : decode cX12_placed 111 = .ok (.iload_n 3, 1) := by decide +kernel
theorem dX12_placed_112 : decode cX12_placed 112 = .ok (.ireturn, 1) := by decide +kernel
theorem dX12_placed_113 : decode cX12_placed 113 = .ok (.iinc 3 1, 3) := by decide +kernel
theorem dX12_placed_116 : decode cX12_placed 116 = .ok (.goto (-114), 3) := by decide +kernel
theorem dX12_placed_119 : decode cX12_placed 119 = .ok (.iconst (-1), 1) := by decide +kernel
theorem dX12_placed_120 : decode cX12_placed 120 = .ok (.ireturn, 1) := by decide +kernel
theorem dX12_ranked_0 : decode cX12_ranked 0 = .ok (.aload_n 0, 1) := by decide +kernel
theorem dX12_ranked_1 : decode cX12_ranked 1 = .ok (.iload_n 1, 1) := by decide +kernel
theorem dX12_ranked_2 : decode cX12_ranked 2 = .ok (.aload_n 0, 1) := by decide +kernel
theorem dX12_ranked_3 : decode cX12_ranked 3 = .ok (.getfield 3, 3) := by decide +kernel
theorem dX12_ranked_6 : decode cX12_ranked 6 = .ok (.iconst 0, 1) := by decide +kernel
theorem dX12_ranked_7 : decode cX12_ranked 7 = .ok (.iaload, 1) := by decide +kernel
theorem dX12_ranked_8 : decode cX12_ranked 8 = .ok (.invokevirtual 356, 3) := by decide +kernel
theorem dX12_ranked_11 : decode cX12_ranked 11 = .ok (.ireturn, 1) := by decide +kernel
theorem dX12_dearest_0 : decode cX12_dearest 0 = .ok (.iload_n 1, 1) := by decide +kernel
theorem dX12_dearest_1 : decode cX12_dearest 1 = .ok (.invokestatic 253, 3) := by decide +kernel
theorem dX12_dearest_4 : decode cX12_dearest 4 = .ok (.ifCond .ne 7, 3) := by decide +kernel
theorem dX12_dearest_7 : decode cX12_dearest 7 = .ok (.iconst (-1), 1) := by decide +kernel
theorem dX12_dearest_8 : decode cX12_dearest 8 = .ok (.goto 22, 3) := by decide +kernel
theorem dX12_dearest_11 : decode cX12_dearest 11 = .ok (.aload_n 0, 1) := by decide +kernel
theorem dX12_dearest_12 : decode cX12_dearest 12 = .ok (.iconst 0, 1) := by decide +kernel
theorem dX12_dearest_13 : decode cX12_dearest 13 = .ok (.invokevirtual 250, 3) := by decide +kernel
theorem dX12_dearest_16 : decode cX12_dearest 16 = .ok (.ifCond .ne 8, 3) := by decide +kernel
theorem dX12_dearest_19 : decode cX12_dearest 19 = .ok (.bipush (-2), 2) := by decide +kernel
theorem dX12_dearest_21 : decode cX12_dearest 21 = .ok (.goto 9, 3) := by decide +kernel
theorem dX12_dearest_24 : decode cX12_dearest 24 = .ok (.aload_n 0, 1) := by decide +kernel
theorem dX12_dearest_25 : decode cX12_dearest 25 = .ok (.iconst 0, 1) := by decide +kernel
theorem dX12_dearest_26 : decode cX12_dearest 26 = .ok (.iload_n 1, 1) := by decide +kernel
theorem dX12_dearest_27 : decode cX12_dearest 27 = .ok (.invokevirtual 356, 3) := by decide +kernel
theorem dX12_dearest_30 : decode cX12_dearest 30 = .ok (.ireturn, 1) := by decide +kernel
theorem dX12_tag_0 : decode cX12_tag 0 = .ok (.iload_n 1, 1) := by decide +kernel
theorem dX12_tag_1 : decode cX12_tag 1 = .ok (.i2l, 1) := by decide +kernel
theorem dX12_tag_2 : decode cX12_tag 2 = .ok (.lconst 1, 1) := by decide +kernel
theorem dX12_tag_3 : decode cX12_tag 3 = .ok (.ldc2_w 359, 3) := by decide +kernel
theorem dX12_tag_6 : decode cX12_tag 6 = .ok (.invokestatic 68, 3) := by decide +kernel
theorem dX12_tag_9 : decode cX12_tag 9 = .ok (.ifCond .ne 5, 3) := by decide +kernel
theorem dX12_tag_12 : decode cX12_tag 12 = .ok (.iconst (-1), 1) := by decide +kernel
theorem dX12_tag_13 : decode cX12_tag 13 = .ok (.ireturn, 1) := by decide +kernel
theorem dX12_tag_14 : decode cX12_tag 14 = .ok (.iload_n 1, 1) := by decide +kernel
theorem dX12_tag_15 : decode cX12_tag 15 = .ok (.aload_n 0, 1) := by decide +kernel
theorem dX12_tag_16 : decode cX12_tag 16 = .ok (.iconst 0, 1) := by decide +kernel
theorem dX12_tag_17 : decode cX12_tag 17 = .ok (.invokevirtual 250, 3) := by decide +kernel
theorem dX12_tag_20 : decode cX12_tag 20 = .ok (.invokestatic 122, 3) := by decide +kernel
theorem dX12_tag_23 : decode cX12_tag 23 = .ok (.istore_n 2, 1) := by decide +kernel
theorem dX12_tag_24 : decode cX12_tag 24 = .ok (.iload_n 2, 1) := by decide +kernel
theorem dX12_tag_25 : decode cX12_tag 25 = .ok (.ifCond .ne 6, 3) := by decide +kernel
theorem dX12_tag_28 : decode cX12_tag 28 = .ok (.bipush (-2), 2) := by decide +kernel
theorem dX12_tag_30 : decode cX12_tag 30 = .ok (.ireturn, 1) := by decide +kernel
theorem dX12_tag_31 : decode cX12_tag 31 = .ok (.iconst 0, 1) := by decide +kernel
theorem dX12_tag_32 : decode cX12_tag 32 = .ok (.istore_n 3, 1) := by decide +kernel
theorem dX12_tag_33 : decode cX12_tag 33 = .ok (.iconst 0, 1) := by decide +kernel
theorem dX12_tag_34 : decode cX12_tag 34 = .ok (.istore 4, 2) := by decide +kernel
theorem dX12_tag_36 : decode cX12_tag 36 = .ok (.iload 4, 2) := by decide +kernel
theorem dX12_tag_38 : decode cX12_tag 38 = .ok (.iload_n 2, 1) := by decide +kernel
theorem dX12_tag_39 : decode cX12_tag 39 = .ok (.if_icmp .ge 34, 3) := by decide +kernel
theorem dX12_tag_42 : decode cX12_tag 42 = .ok (.iload_n 3, 1) := by decide +kernel
theorem dX12_tag_43 : decode cX12_tag 43 = .ok (.aload_n 0, 1) := by decide +kernel
theorem dX12_tag_44 : decode cX12_tag 44 = .ok (.aload_n 0, 1) := by decide +kernel
theorem dX12_tag_45 : decode cX12_tag 45 = .ok (.iload 4, 2) := by decide +kernel
theorem dX12_tag_47 : decode cX12_tag 47 = .ok (.aload_n 0, 1) := by decide +kernel
theorem dX12_tag_48 : decode cX12_tag 48 = .ok (.getfield 3, 3) := by decide +kernel
theorem dX12_tag_51 : decode cX12_tag 51 = .ok (.iconst 0, 1) := by decide +kernel
theorem dX12_tag_52 : decode cX12_tag 52 = .ok (.iaload, 1) := by decide +kernel
theorem dX12_tag_53 : decode cX12_tag 53 = .ok (.invokevirtual 356, 3) := by decide +kernel
theorem dX12_tag_56 : decode cX12_tag 56 = .ok (.aload_n 0, 1) := by decide +kernel
theorem dX12_tag_57 : decode cX12_tag 57 = .ok (.getfield 3, 3) := by decide +kernel
theorem dX12_tag_60 : decode cX12_tag 60 = .ok (.iconst 0, 1) := by decide +kernel
theorem dX12_tag_61 : decode cX12_tag 61 = .ok (.iaload, 1) := by decide +kernel
theorem dX12_tag_62 : decode cX12_tag 62 = .ok (.invokevirtual 230, 3) := by decide +kernel
theorem dX12_tag_65 : decode cX12_tag 65 = .ok (.iadd, 1) := by decide +kernel
theorem dX12_tag_66 : decode cX12_tag 66 = .ok (.istore_n 3, 1) := by decide +kernel
theorem dX12_tag_67 : decode cX12_tag 67 = .ok (.iinc 4 1, 3) := by decide +kernel
theorem dX12_tag_70 : decode cX12_tag 70 = .ok (.goto (-34), 3) := by decide +kernel
theorem dX12_tag_73 : decode cX12_tag 73 = .ok (.iload_n 3, 1) := by decide +kernel
theorem dX12_tag_74 : decode cX12_tag 74 = .ok (.iload_n 2, 1) := by decide +kernel
theorem dX12_tag_75 : decode cX12_tag 75 = .ok (.idiv, 1) := by decide +kernel
theorem dX12_tag_76 : decode cX12_tag 76 = .ok (.ireturn, 1) := by decide +kernel
theorem dX12_counted_0 : decode cX12_counted 0 = .ok (.iload_n 1, 1) := by decide +kernel
theorem dX12_counted_1 : decode cX12_counted 1 = .ok (.i2l, 1) := by decide +kernel
theorem dX12_counted_2 : decode cX12_counted 2 = .ok (.lconst 0, 1) := by decide +kernel
theorem dX12_counted_3 : decode cX12_counted 3 = .ok (.lconst 1, 1) := by decide +kernel
theorem dX12_counted_4 : decode cX12_counted 4 = .ok (.invokestatic 68, 3) := by decide +kernel
theorem dX12_counted_7 : decode cX12_counted 7 = .ok (.ifCond .ne 5, 3) := by decide +kernel
theorem dX12_counted_10 : decode cX12_counted 10 = .ok (.iconst (-1), 1) := by decide +kernel
theorem dX12_counted_11 : decode cX12_counted 11 = .ok (.ireturn, 1) := by decide +kernel
theorem dX12_counted_12 : decode cX12_counted 12 = .ok (.aload_n 0, 1) := by decide +kernel
theorem dX12_counted_13 : decode cX12_counted 13 = .ok (.lconst 0, 1) := by decide +kernel
theorem dX12_counted_14 : decode cX12_counted 14 = .ok (.lconst 0, 1) := by decide +kernel
theorem dX12_counted_15 : decode cX12_counted 15 = .ok (.aload_n 0, 1) := by decide +kernel
theorem dX12_counted_16 : decode cX12_counted 16 = .ok (.getfield 3, 3) := by decide +kernel
theorem dX12_counted_19 : decode cX12_counted 19 = .ok (.iconst 1, 1) := by decide +kernel
theorem dX12_counted_20 : decode cX12_counted 20 = .ok (.iaload, 1) := by decide +kernel
theorem dX12_counted_21 : decode cX12_counted 21 = .ok (.invokevirtual 233, 3) := by decide +kernel
theorem dX12_counted_24 : decode cX12_counted 24 = .ok (.bipush (-2), 2) := by decide +kernel
theorem dX12_counted_26 : decode cX12_counted 26 = .ok (.istore_n 2, 1) := by decide +kernel
theorem dX12_counted_27 : decode cX12_counted 27 = .ok (.iconst 0, 1) := by decide +kernel
theorem dX12_counted_28 : decode cX12_counted 28 = .ok (.istore_n 3, 1) := by decide +kernel
theorem dX12_counted_29 : decode cX12_counted 29 = .ok (.iconst 0, 1) := by decide +kernel
theorem dX12_counted_30 : decode cX12_counted 30 = .ok (.istore 4, 2) := by decide +kernel
theorem dX12_counted_32 : decode cX12_counted 32 = .ok (.iload 4, 2) := by decide +kernel
theorem dX12_counted_34 : decode cX12_counted 34 = .ok (.aload_n 0, 1) := by decide +kernel
theorem dX12_counted_35 : decode cX12_counted 35 = .ok (.getfield 3, 3) := by decide +kernel
theorem dX12_counted_38 : decode cX12_counted 38 = .ok (.bipush 7, 2) := by decide +kernel
theorem dX12_counted_40 : decode cX12_counted 40 = .ok (.iaload, 1) := by decide +kernel
theorem dX12_counted_41 : decode cX12_counted 41 = .ok (.if_icmp .ge 76, 3) := by decide +kernel
theorem dX12_counted_44 : decode cX12_counted 44 = .ok (.aload_n 0, 1) := by decide +kernel
theorem dX12_counted_45 : decode cX12_counted 45 = .ok (.getfield 39, 3) := by decide +kernel
theorem dX12_counted_48 : decode cX12_counted 48 = .ok (.iload 4, 2) := by decide +kernel
theorem dX12_counted_50 : decode cX12_counted 50 = .ok (.iaload, 1) := by decide +kernel
theorem dX12_counted_51 : decode cX12_counted 51 = .ok (.iconst (-1), 1) := by decide +kernel
theorem dX12_counted_52 : decode cX12_counted 52 = .ok (.if_icmp .ne 6, 3) := by decide +kernel
theorem dX12_counted_55 : decode cX12_counted 55 = .ok (.goto 56, 3) := by decide +kernel
theorem dX12_counted_58 : decode cX12_counted 58 = .ok (.iload_n 3, 1) := by decide +kernel
theorem dX12_counted_59 : decode cX12_counted 59 = .ok (.aload_n 0, 1) := by decide +kernel
theorem dX12_counted_60 : decode cX12_counted 60 = .ok (.getfield 45, 3) := by decide +kernel
theorem dX12_counted_63 : decode cX12_counted 63 = .ok (.iload 4, 2) := by decide +kernel
theorem dX12_counted_65 : decode cX12_counted 65 = .ok (.baload, 1) := by decide +kernel
theorem dX12_counted_66 : decode cX12_counted 66 = .ok (.ifCond .eq 7, 3) := by decide +kernel
theorem dX12_counted_69 : decode cX12_counted 69 = .ok (.iconst 0, 1) := by decide +kernel
theorem dX12_counted_70 : decode cX12_counted 70 = .ok (.goto 4, 3) := by decide +kernel
theorem dX12_counted_73 : decode cX12_counted 73 = .ok (.iconst 1, 1) := by decide +kernel
theorem dX12_counted_74 : decode cX12_counted 74 = .ok (.iadd, 1) := by decide +kernel
theorem dX12_counted_75 : decode cX12_counted 75 = .ok (.istore_n 3, 1) := by decide +kernel
theorem dX12_counted_76 : decode cX12_counted 76 = .ok (.aload_n 0, 1) := by decide +kernel
theorem dX12_counted_77 : decode cX12_counted 77 = .ok (.getfield 45, 3) := by decide +kernel
theorem dX12_counted_80 : decode cX12_counted 80 = .ok (.iload 4, 2) := by decide +kernel
theorem dX12_counted_82 : decode cX12_counted 82 = .ok (.baload, 1) := by decide +kernel
theorem dX12_counted_83 : decode cX12_counted 83 = .ok (.ifCond .eq 28, 3) := by decide +kernel
theorem dX12_counted_86 : decode cX12_counted 86 = .ok (.iload_n 2, 1) := by decide +kernel
theorem dX12_counted_87 : decode cX12_counted 87 = .ok (.bipush (-2), 2) := by decide +kernel
theorem dX12_counted_89 : decode cX12_counted 89 = .ok (.if_icmp .eq 14, 3) := by decide +kernel
theorem dX12_counted_92 : decode cX12_counted 92 = .ok (.aload_n 0, 1) := by decide +kernel
theorem dX12_counted_93 : decode cX12_counted 93 = .ok (.getfield 39, 3) := by decide +kernel
theorem dX12_counted_96 : decode cX12_counted 96 = .ok (.iload 4, 2) := by decide +kernel
theorem dX12_counted_98 : decode cX12_counted 98 = .ok (.iaload, 1) := by decide +kernel
theorem dX12_counted_99 : decode cX12_counted 99 = .ok (.iload_n 2, 1) := by decide +kernel
theorem dX12_counted_100 : decode cX12_counted 100 = .ok (.if_icmp .ge 11, 3) := by decide +kernel
theorem dX12_counted_103 : decode cX12_counted 103 = .ok (.aload_n 0, 1) := by decide +kernel
theorem dX12_counted_104 : decode cX12_counted 104 = .ok (.getfield 39, 3) := by decide +kernel
theorem dX12_counted_107 : decode cX12_counted 107 = .ok (.iload 4, 2) := by decide +kernel
theorem dX12_counted_109 : decode cX12_counted 109 = .ok (.iaload, 1) := by decide +kernel
theorem dX12_counted_110 : decode cX12_counted 110 = .ok (.istore_n 2, 1) := by decide +kernel
theorem dX12_counted_111 : decode cX12_counted 111 = .ok (.iinc 4 1, 3) := by decide +kernel
theorem dX12_counted_114 : decode cX12_counted 114 = .ok (.goto (-82), 3) := by decide +kernel
theorem dX12_counted_117 : decode cX12_counted 117 = .ok (.iload_n 1, 1) := by decide +kernel
theorem dX12_counted_118 : decode cX12_counted 118 = .ok (.ifCond .ne 7, 3) := by decide +kernel
theorem dX12_counted_121 : decode cX12_counted 121 = .ok (.iload_n 2, 1) := by decide +kernel
theorem dX12_counted_122 : decode cX12_counted 122 = .ok (.goto 4, 3) := by decide +kernel
theorem dX12_counted_125 : decode cX12_counted 125 = .ok (.iload_n 3, 1) := by decide +kernel
theorem dX12_counted_126 : decode cX12_counted 126 = .ok (.ireturn, 1) := by decide +kernel
theorem dX12_share_0 : decode cX12_share 0 = .ok (.iload_n 1, 1) := by decide +kernel
theorem dX12_share_1 : decode cX12_share 1 = .ok (.invokestatic 253, 3) := by decide +kernel
theorem dX12_share_4 : decode cX12_share 4 = .ok (.ifCond .ne 5, 3) := by decide +kernel
theorem dX12_share_7 : decode cX12_share 7 = .ok (.iconst (-1), 1) := by decide +kernel
theorem dX12_share_8 : decode cX12_share 8 = .ok (.ireturn, 1) := by decide +kernel
theorem dX12_share_9 : decode cX12_share 9 = .ok (.aload_n 0, 1) := by decide +kernel
theorem dX12_share_10 : decode cX12_share 10 = .ok (.getfield 3, 3) := by decide +kernel
theorem dX12_share_13 : decode cX12_share 13 = .ok (.bipush 10, 2) := by decide +kernel
theorem dX12_share_15 : decode cX12_share 15 = .ok (.iload_n 1, 1) := by decide +kernel
theorem dX12_share_16 : decode cX12_share 16 = .ok (.iadd, 1) := by decide +kernel
theorem dX12_share_17 : decode cX12_share 17 = .ok (.iaload, 1) := by decide +kernel
theorem dX12_share_18 : decode cX12_share 18 = .ok (.ifCond .ne 6, 3) := by decide +kernel
theorem dX12_share_21 : decode cX12_share 21 = .ok (.bipush (-2), 2) := by decide +kernel
theorem dX12_share_23 : decode cX12_share 23 = .ok (.ireturn, 1) := by decide +kernel
theorem dX12_share_24 : decode cX12_share 24 = .ok (.aload_n 0, 1) := by decide +kernel
theorem dX12_share_25 : decode cX12_share 25 = .ok (.getfield 3, 3) := by decide +kernel
theorem dX12_share_28 : decode cX12_share 28 = .ok (.bipush 30, 2) := by decide +kernel
theorem dX12_share_30 : decode cX12_share 30 = .ok (.iload_n 1, 1) := by decide +kernel
theorem dX12_share_31 : decode cX12_share 31 = .ok (.iadd, 1) := by decide +kernel
theorem dX12_share_32 : decode cX12_share 32 = .ok (.iaload, 1) := by decide +kernel
theorem dX12_share_33 : decode cX12_share 33 = .ok (.i2l, 1) := by decide +kernel
theorem dX12_share_34 : decode cX12_share 34 = .ok (.ldc2_w 361, 3) := by decide +kernel
theorem dX12_share_37 : decode cX12_share 37 = .ok (.lmul, 1) := by decide +kernel
theorem dX12_share_38 : decode cX12_share 38 = .ok (.aload_n 0, 1) := by decide +kernel
theorem dX12_share_39 : decode cX12_share 39 = .ok (.getfield 3, 3) := by decide +kernel
theorem dX12_share_42 : decode cX12_share 42 = .ok (.bipush 10, 2) := by decide +kernel
theorem dX12_share_44 : decode cX12_share 44 = .ok (.iload_n 1, 1) := by decide +kernel
theorem dX12_share_45 : decode cX12_share 45 = .ok (.iadd, 1) := by decide +kernel
theorem dX12_share_46 : decode cX12_share 46 = .ok (.iaload, 1) := by decide +kernel
theorem dX12_share_47 : decode cX12_share 47 = .ok (.i2l, 1) := by decide +kernel
theorem dX12_share_48 : decode cX12_share 48 = .ok (.ldiv, 1) := by decide +kernel
theorem dX12_share_49 : decode cX12_share 49 = .ok (.lstore_n 2, 1) := by decide +kernel
theorem dX12_share_50 : decode cX12_share 50 = .ok (.lload_n 2, 1) := by decide +kernel
theorem dX12_share_51 : decode cX12_share 51 = .ok (.ldc2_w 363, 3) := by decide +kernel
theorem dX12_share_54 : decode cX12_share 54 = .ok (.lcmp, 1) := by decide +kernel
theorem dX12_share_55 : decode cX12_share 55 = .ok (.ifCond .le 9, 3) := by decide +kernel
theorem dX12_share_58 : decode cX12_share 58 = .ok (.ldc_w 365, 3) := by decide +kernel
theorem dX12_share_61 : decode cX12_share 61 = .ok (.goto 5, 3) := by decide +kernel
theorem dX12_share_64 : decode cX12_share 64 = .ok (.lload_n 2, 1) := by decide +kernel
theorem dX12_share_65 : decode cX12_share 65 = .ok (.l2i, 1) := by decide +kernel
theorem dX12_share_66 : decode cX12_share 66 = .ok (.ireturn, 1) := by decide +kernel
theorem dX12_readAct_0 : decode cX12_readAct 0 = .ok (.aload_n 0, 1) := by decide +kernel
theorem dX12_readAct_1 : decode cX12_readAct 1 = .ok (.invokevirtual 85, 3) := by decide +kernel
theorem dX12_readAct_4 : decode cX12_readAct 4 = .ok (.istore_n 1, 1) := by decide +kernel
theorem dX12_readAct_5 : decode cX12_readAct 5 = .ok (.iload_n 1, 1) := by decide +kernel
theorem dX12_readAct_6 : decode cX12_readAct 6 = .ok (.bipush 116, 2) := by decide +kernel
theorem dX12_readAct_8 : decode cX12_readAct 8 = .ok (.if_icmp .ne 7, 3) := by decide +kernel
theorem dX12_readAct_11 : decode cX12_readAct 11 = .ok (.iconst 2, 1) := by decide +kernel
theorem dX12_readAct_12 : decode cX12_readAct 12 = .ok (.goto 20, 3) := by decide +kernel
theorem dX12_readAct_15 : decode cX12_readAct 15 = .ok (.iload_n 1, 1) := by decide +kernel
theorem dX12_readAct_16 : decode cX12_readAct 16 = .ok (.bipush 120, 2) := by decide +kernel
theorem dX12_readAct_18 : decode cX12_readAct 18 = .ok (.if_icmp .eq 9, 3) := by decide +kernel
theorem dX12_readAct_21 : decode cX12_readAct 21 = .ok (.iload_n 1, 1) := by decide +kernel
theorem dX12_readAct_22 : decode cX12_readAct 22 = .ok (.bipush 100, 2) := by decide +kernel
theorem dX12_readAct_24 : decode cX12_readAct 24 = .ok (.if_icmp .ne 7, 3) := by decide +kernel
theorem dX12_readAct_27 : decode cX12_readAct 27 = .ok (.iconst 1, 1) := by decide +kernel
theorem dX12_readAct_28 : decode cX12_readAct 28 = .ok (.goto 4, 3) := by decide +kernel
theorem dX12_readAct_31 : decode cX12_readAct 31 = .ok (.iconst 0, 1) := by decide +kernel
theorem dX12_readAct_32 : decode cX12_readAct 32 = .ok (.istore_n 2, 1) := by decide +kernel
theorem dX12_readAct_33 : decode cX12_readAct 33 = .ok (.iload_n 2, 1) := by decide +kernel
theorem dX12_readAct_34 : decode cX12_readAct 34 = .ok (.ifCond .ne 9, 3) := by decide +kernel
theorem dX12_readAct_37 : decode cX12_readAct 37 = .ok (.iload_n 1, 1) := by decide +kernel
theorem dX12_readAct_38 : decode cX12_readAct 38 = .ok (.bipush 121, 2) := by decide +kernel
theorem dX12_readAct_40 : decode cX12_readAct 40 = .ok (.if_icmp .ne 12, 3) := by decide +kernel
theorem dX12_readAct_43 : decode cX12_readAct 43 = .ok (.aload_n 0, 1) := by decide +kernel
theorem dX12_readAct_44 : decode cX12_readAct 44 = .ok (.getfield 366, 3) := by decide +kernel
theorem dX12_readAct_47 : decode cX12_readAct 47 = .ok (.bipush 20, 2) := by decide +kernel
theorem dX12_readAct_49 : decode cX12_readAct 49 = .ok (.if_icmp .ne 12, 3) := by decide +kernel
theorem dX12_readAct_52 : decode cX12_readAct 52 = .ok (.aload_n 0, 1) := by decide +kernel
theorem dX12_readAct_53 : decode cX12_readAct 53 = .ok (.aload_n 0, 1) := by decide +kernel
theorem dX12_readAct_54 : decode cX12_readAct 54 = .ok (.getfield 82, 3) := by decide +kernel
theorem dX12_readAct_57 : decode cX12_readAct 57 = .ok (.invokevirtual 89, 3) := by decide +kernel
theorem dX12_readAct_60 : decode cX12_readAct 60 = .ok (.ireturn, 1) := by decide +kernel
theorem dX12_readAct_61 : decode cX12_readAct 61 = .ok (.iconst 3, 1) := by decide +kernel
theorem dX12_readAct_62 : decode cX12_readAct 62 = .ok (.aload_n 0, 1) := by decide +kernel
theorem dX12_readAct_63 : decode cX12_readAct 63 = .ok (.getfield 366, 3) := by decide +kernel
theorem dX12_readAct_66 : decode cX12_readAct 66 = .ok (.imul, 1) := by decide +kernel
theorem dX12_readAct_67 : decode cX12_readAct 67 = .ok (.istore_n 3, 1) := by decide +kernel
theorem dX12_readAct_68 : decode cX12_readAct 68 = .ok (.aload_n 0, 1) := by decide +kernel
theorem dX12_readAct_69 : decode cX12_readAct 69 = .ok (.getfield 51, 3) := by decide +kernel
theorem dX12_readAct_72 : decode cX12_readAct 72 = .ok (.iload_n 3, 1) := by decide +kernel
theorem dX12_readAct_73 : decode cX12_readAct 73 = .ok (.iload_n 1, 1) := by decide +kernel
theorem dX12_readAct_74 : decode cX12_readAct 74 = .ok (.iastore, 1) := by decide +kernel
theorem dX12_readAct_75 : decode cX12_readAct 75 = .ok (.aload_n 0, 1) := by decide +kernel
theorem dX12_readAct_76 : decode cX12_readAct 76 = .ok (.dup, 1) := by decide +kernel
theorem dX12_readAct_77 : decode cX12_readAct 77 = .ok (.getfield 82, 3) := by decide +kernel
theorem dX12_readAct_80 : decode cX12_readAct 80 = .ok (.iconst 1, 1) := by decide +kernel
theorem dX12_readAct_81 : decode cX12_readAct 81 = .ok (.iadd, 1) := by decide +kernel
theorem dX12_readAct_82 : decode cX12_readAct 82 = .ok (.putfield 82, 3) := by decide +kernel
theorem dX12_readAct_85 : decode cX12_readAct 85 = .ok (.iconst 1, 1) := by decide +kernel
theorem dX12_readAct_86 : decode cX12_readAct 86 = .ok (.istore 4, 2) := by decide +kernel
theorem dX12_readAct_88 : decode cX12_readAct 88 = .ok (.iload 4, 2) := by decide +kernel
theorem dX12_readAct_90 : decode cX12_readAct 90 = .ok (.iload_n 2, 1) := by decide +kernel
theorem dX12_readAct_91 : decode cX12_readAct 91 = .ok (.if_icmp .gt 49, 3) := by decide +kernel
theorem dX12_readAct_94 : decode cX12_readAct 94 = .ok (.iload 4, 2) := by decide +kernel
theorem dX12_readAct_96 : decode cX12_readAct 96 = .ok (.iconst 1, 1) := by decide +kernel
theorem dX12_readAct_97 : decode cX12_readAct 97 = .ok (.if_icmp .le 12, 3) := by decide +kernel
theorem dX12_readAct_100 : decode cX12_readAct 100 = .ok (.aload_n 0, 1) := by decide +kernel
theorem dX12_readAct_101 : decode cX12_readAct 101 = .ok (.bipush 44, 2) := by decide +kernel
theorem dX12_readAct_103 : decode cX12_readAct 103 = .ok (.invokevirtual 103, 3) := by decide +kernel
theorem dX12_readAct_106 : decode cX12_readAct 106 = .ok (.ifCond .eq 13, 3) := by decide +kernel
theorem dX12_readAct_109 : decode cX12_readAct 109 = .ok (.aload_n 0, 1) := by decide +kernel
theorem dX12_readAct_110 : decode cX12_readAct 110 = .ok (.iconst 0, 1) := by decide +kernel
theorem dX12_readAct_111 : decode cX12_readAct 111 = .ok (.ldc 106, 2) := by decide +kernel
theorem dX12_readAct_113 : decode cX12_readAct 113 = .ok (.invokevirtual 99, 3) := by decide +kernel
theorem dX12_readAct_116 : decode cX12_readAct 116 = .ok (.ifCond .ne 5, 3) := by decide +kernel
theorem dX12_readAct_119 : decode cX12_readAct 119 = .ok (.iconst 0, 1) := by decide +kernel
theorem dX12_readAct_120 : decode cX12_readAct 120 = .ok (.ireturn, 1) := by decide +kernel
theorem dX12_readAct_121 : decode cX12_readAct 121 = .ok (.aload_n 0, 1) := by decide +kernel
theorem dX12_readAct_122 : decode cX12_readAct 122 = .ok (.getfield 51, 3) := by decide +kernel
theorem dX12_readAct_125 : decode cX12_readAct 125 = .ok (.iload_n 3, 1) := by decide +kernel
theorem dX12_readAct_126 : decode cX12_readAct 126 = .ok (.iload 4, 2) := by decide +kernel
theorem dX12_readAct_128 : decode cX12_readAct 128 = .ok (.iadd, 1) := by decide +kernel
theorem dX12_readAct_129 : decode cX12_readAct 129 = .ok (.aload_n 0, 1) := by decide +kernel
theorem dX12_readAct_130 : decode cX12_readAct 130 = .ok (.getfield 93, 3) := by decide +kernel
theorem dX12_readAct_133 : decode cX12_readAct 133 = .ok (.iastore, 1) := by decide +kernel
theorem dX12_readAct_134 : decode cX12_readAct 134 = .ok (.iinc 4 1, 3) := by decide +kernel
theorem dX12_readAct_137 : decode cX12_readAct 137 = .ok (.goto (-49), 3) := by decide +kernel
theorem dX12_readAct_140 : decode cX12_readAct 140 = .ok (.aload_n 0, 1) := by decide +kernel
theorem dX12_readAct_141 : decode cX12_readAct 141 = .ok (.dup, 1) := by decide +kernel
theorem dX12_readAct_142 : decode cX12_readAct 142 = .ok (.getfield 366, 3) := by decide +kernel
theorem dX12_readAct_145 : decode cX12_readAct 145 = .ok (.iconst 1, 1) := by decide +kernel
theorem dX12_readAct_146 : decode cX12_readAct 146 = .ok (.iadd, 1) := by decide +kernel
theorem dX12_readAct_147 : decode cX12_readAct 147 = .ok (.putfield 366, 3) := by decide +kernel
theorem dX12_readAct_150 : decode cX12_readAct 150 = .ok (.aload_n 0, 1) := by decide +kernel
theorem dX12_readAct_151 : decode cX12_readAct 151 = .ok (.bipush 59, 2) := by decide +kernel
theorem dX12_readAct_153 : decode cX12_readAct 153 = .ok (.invokevirtual 103, 3) := by decide +kernel
theorem dX12_readAct_156 : decode cX12_readAct 156 = .ok (.ireturn, 1) := by decide +kernel
theorem dX12_doAct_0 : decode cX12_doAct 0 = .ok (.aload_n 0, 1) := by decide +kernel
theorem dX12_doAct_1 : decode cX12_doAct 1 = .ok (.getfield 51, 3) := by decide +kernel
theorem dX12_doAct_4 : decode cX12_doAct 4 = .ok (.iload_n 1, 1) := by decide +kernel
theorem dX12_doAct_5 : decode cX12_doAct 5 = .ok (.iaload, 1) := by decide +kernel
theorem dX12_doAct_6 : decode cX12_doAct 6 = .ok (.lookupswitch 108 #[(100, 86), (116, 56), (120, 34)], 34) := by decide +kernel
theorem dX12_doAct_40 : decode cX12_doAct 40 = .ok (.aload_n 0, 1) := by decide +kernel
theorem dX12_doAct_41 : decode cX12_doAct 41 = .ok (.aload_n 0, 1) := by decide +kernel
theorem dX12_doAct_42 : decode cX12_doAct 42 = .ok (.getfield 51, 3) := by decide +kernel
theorem dX12_doAct_45 : decode cX12_doAct 45 = .ok (.iload_n 1, 1) := by decide +kernel
theorem dX12_doAct_46 : decode cX12_doAct 46 = .ok (.iconst 1, 1) := by decide +kernel
theorem dX12_doAct_47 : decode cX12_doAct 47 = .ok (.iadd, 1) := by decide +kernel
theorem dX12_doAct_48 : decode cX12_doAct 48 = .ok (.iaload, 1) := by decide +kernel
theorem dX12_doAct_49 : decode cX12_doAct 49 = .ok (.invokevirtual 369, 3) := by decide +kernel
theorem dX12_doAct_52 : decode cX12_doAct 52 = .ok (.iconst (-1), 1) := by decide +kernel
theorem dX12_doAct_53 : decode cX12_doAct 53 = .ok (.if_icmp .eq 7, 3) := by decide +kernel
theorem dX12_doAct_56 : decode cX12_doAct 56 = .ok (.iconst 1, 1) := by decide +kernel
theorem dX12_doAct_57 : decode cX12_doAct 57 = .ok (.goto 4, 3) := by decide +kernel
theorem dX12_doAct_60 : decode cX12_doAct 60 = .ok (.iconst 0, 1) := by decide +kernel
theorem dX12_doAct_61 : decode cX12_doAct 61 = .ok (.ireturn, 1) := by decide +kernel
theorem dX12_doAct_62 : decode cX12_doAct 62 = .ok (.aload_n 0, 1) := by decide +kernel
theorem dX12_doAct_63 : decode cX12_doAct 63 = .ok (.aload_n 0, 1) := by decide +kernel
theorem dX12_doAct_64 : decode cX12_doAct 64 = .ok (.getfield 51, 3) := by decide +kernel
theorem dX12_doAct_67 : decode cX12_doAct 67 = .ok (.iload_n 1, 1) := by decide +kernel
theorem dX12_doAct_68 : decode cX12_doAct 68 = .ok (.iconst 1, 1) := by decide +kernel
theorem dX12_doAct_69 : decode cX12_doAct 69 = .ok (.iadd, 1) := by decide +kernel
theorem dX12_doAct_70 : decode cX12_doAct 70 = .ok (.iaload, 1) := by decide +kernel
theorem dX12_doAct_71 : decode cX12_doAct 71 = .ok (.aload_n 0, 1) := by decide +kernel
theorem dX12_doAct_72 : decode cX12_doAct 72 = .ok (.getfield 51, 3) := by decide +kernel
theorem dX12_doAct_75 : decode cX12_doAct 75 = .ok (.iload_n 1, 1) := by decide +kernel
theorem dX12_doAct_76 : decode cX12_doAct 76 = .ok (.iconst 2, 1) := by decide +kernel
theorem dX12_doAct_77 : decode cX12_doAct 77 = .ok (.iadd, 1) := by decide +kernel
theorem dX12_doAct_78 : decode cX12_doAct 78 = .ok (.iaload, 1) := by decide +kernel
theorem dX12_doAct_79 : decode cX12_doAct 79 = .ok (.invokevirtual 372, 3) := by decide +kernel
theorem dX12_doAct_82 : decode cX12_doAct 82 = .ok (.iconst (-1), 1) := by decide +kernel
theorem dX12_doAct_83 : decode cX12_doAct 83 = .ok (.if_icmp .eq 7, 3) := by decide +kernel
theorem dX12_doAct_86 : decode cX12_doAct 86 = .ok (.iconst 1, 1) := by decide +kernel
theorem dX12_doAct_87 : decode cX12_doAct 87 = .ok (.goto 4, 3) := by decide +kernel
theorem dX12_doAct_90 : decode cX12_doAct 90 = .ok (.iconst 0, 1) := by decide +kernel
theorem dX12_doAct_91 : decode cX12_doAct 91 = .ok (.ireturn, 1) := by decide +kernel
theorem dX12_doAct_92 : decode cX12_doAct 92 = .ok (.aload_n 0, 1) := by decide +kernel
theorem dX12_doAct_93 : decode cX12_doAct 93 = .ok (.aload_n 0, 1) := by decide +kernel
theorem dX12_doAct_94 : decode cX12_doAct 94 = .ok (.getfield 51, 3) := by decide +kernel
theorem dX12_doAct_97 : decode cX12_doAct 97 = .ok (.iload_n 1, 1) := by decide +kernel
theorem dX12_doAct_98 : decode cX12_doAct 98 = .ok (.iconst 1, 1) := by decide +kernel
theorem dX12_doAct_99 : decode cX12_doAct 99 = .ok (.iadd, 1) := by decide +kernel
theorem dX12_doAct_100 : decode cX12_doAct 100 = .ok (.iaload, 1) := by decide +kernel
theorem dX12_doAct_101 : decode cX12_doAct 101 = .ok (.invokevirtual 375, 3) := by decide +kernel
theorem dX12_doAct_104 : decode cX12_doAct 104 = .ok (.iconst (-1), 1) := by decide +kernel
theorem dX12_doAct_105 : decode cX12_doAct 105 = .ok (.if_icmp .eq 7, 3) := by decide +kernel
theorem dX12_doAct_108 : decode cX12_doAct 108 = .ok (.iconst 1, 1) := by decide +kernel
theorem dX12_doAct_109 : decode cX12_doAct 109 = .ok (.goto 4, 3) := by decide +kernel
theorem dX12_doAct_112 : decode cX12_doAct 112 = .ok (.iconst 0, 1) := by decide +kernel
theorem dX12_doAct_113 : decode cX12_doAct 113 = .ok (.ireturn, 1) := by decide +kernel
theorem dX12_doAct_114 : decode cX12_doAct 114 = .ok (.aload_n 0, 1) := by decide +kernel
theorem dX12_doAct_115 : decode cX12_doAct 115 = .ok (.invokevirtual 378, 3) := by decide +kernel
theorem dX12_doAct_118 : decode cX12_doAct 118 = .ok (.iconst (-1), 1) := by decide +kernel
theorem dX12_doAct_119 : decode cX12_doAct 119 = .ok (.if_icmp .eq 7, 3) := by decide +kernel
theorem dX12_doAct_122 : decode cX12_doAct 122 = .ok (.iconst 1, 1) := by decide +kernel
theorem dX12_doAct_123 : decode cX12_doAct 123 = .ok (.goto 4, 3) := by decide +kernel
theorem dX12_doAct_126 : decode cX12_doAct 126 = .ok (.iconst 0, 1) := by decide +kernel
theorem dX12_doAct_127 : decode cX12_doAct 127 = .ok (.ireturn, 1) := by decide +kernel
theorem dX12_acts_0 : decode cX12_acts 0 = .ok (.aload_n 0, 1) := by decide +kernel
theorem dX12_acts_1 : decode cX12_acts 1 = .ok (.invokevirtual 150, 3) := by decide +kernel
theorem dX12_acts_4 : decode cX12_acts 4 = .ok (.aload_n 0, 1) := by decide +kernel
theorem dX12_acts_5 : decode cX12_acts 5 = .ok (.iconst 0, 1) := by decide +kernel
theorem dX12_acts_6 : decode cX12_acts 6 = .ok (.putfield 366, 3) := by decide +kernel
theorem dX12_acts_9 : decode cX12_acts 9 = .ok (.aload_n 0, 1) := by decide +kernel
theorem dX12_acts_10 : decode cX12_acts 10 = .ok (.getfield 22, 3) := by decide +kernel
theorem dX12_acts_13 : decode cX12_acts 13 = .ok (.iconst (-1), 1) := by decide +kernel
theorem dX12_acts_14 : decode cX12_acts 14 = .ok (.if_icmp .ne 32, 3) := by decide +kernel
theorem dX12_acts_17 : decode cX12_acts 17 = .ok (.aload_n 0, 1) := by decide +kernel
theorem dX12_acts_18 : decode cX12_acts 18 = .ok (.getfield 82, 3) := by decide +kernel
theorem dX12_acts_21 : decode cX12_acts 21 = .ok (.aload_n 0, 1) := by decide +kernel
theorem dX12_acts_22 : decode cX12_acts 22 = .ok (.getfield 76, 3) := by decide +kernel
theorem dX12_acts_25 : decode cX12_acts 25 = .ok (.if_icmp .ge 21, 3) := by decide +kernel
theorem dX12_acts_28 : decode cX12_acts 28 = .ok (.aload_n 0, 1) := by decide +kernel
theorem dX12_acts_29 : decode cX12_acts 29 = .ok (.invokevirtual 381, 3) := by decide +kernel
theorem dX12_acts_32 : decode cX12_acts 32 = .ok (.ifCond .ne (-23), 3) := by decide +kernel
theorem dX12_acts_35 : decode cX12_acts 35 = .ok (.aload_n 0, 1) := by decide +kernel
theorem dX12_acts_36 : decode cX12_acts 36 = .ok (.aload_n 0, 1) := by decide +kernel
theorem dX12_acts_37 : decode cX12_acts 37 = .ok (.getfield 76, 3) := by decide +kernel
theorem dX12_acts_40 : decode cX12_acts 40 = .ok (.putfield 82, 3) := by decide +kernel
theorem dX12_acts_43 : decode cX12_acts 43 = .ok (.goto (-34), 3) := by decide +kernel
theorem dX12_acts_46 : decode cX12_acts 46 = .ok (.aload_n 0, 1) := by decide +kernel
theorem dX12_acts_47 : decode cX12_acts 47 = .ok (.invokevirtual 156, 3) := by decide +kernel
theorem dX12_acts_50 : decode cX12_acts 50 = .ok (.ifCond .ne 5, 3) := by decide +kernel
theorem dX12_acts_53 : decode cX12_acts 53 = .ok (.iconst (-1), 1) := by decide +kernel
theorem dX12_acts_54 : decode cX12_acts 54 = .ok (.ireturn, 1) := by decide +kernel
theorem dX12_acts_55 : decode cX12_acts 55 = .ok (.iconst 0, 1) := by decide +kernel
theorem dX12_acts_56 : decode cX12_acts 56 = .ok (.istore_n 1, 1) := by decide +kernel
theorem dX12_acts_57 : decode cX12_acts 57 = .ok (.iload_n 1, 1) := by decide +kernel
theorem dX12_acts_58 : decode cX12_acts 58 = .ok (.aload_n 0, 1) := by decide +kernel
theorem dX12_acts_59 : decode cX12_acts 59 = .ok (.getfield 366, 3) := by decide +kernel
theorem dX12_acts_62 : decode cX12_acts 62 = .ok (.if_icmp .ge 19, 3) := by decide +kernel
theorem dX12_acts_65 : decode cX12_acts 65 = .ok (.aload_n 0, 1) := by decide +kernel
theorem dX12_acts_66 : decode cX12_acts 66 = .ok (.iconst 3, 1) := by decide +kernel
theorem dX12_acts_67 : decode cX12_acts 67 = .ok (.iload_n 1, 1) := by decide +kernel
theorem dX12_acts_68 : decode cX12_acts 68 = .ok (.imul, 1) := by decide +kernel
theorem dX12_acts_69 : decode cX12_acts 69 = .ok (.invokevirtual 384, 3) := by decide +kernel
theorem dX12_acts_72 : decode cX12_acts 72 = .ok (.ifCond .eq 9, 3) := by decide +kernel
theorem dX12_acts_75 : decode cX12_acts 75 = .ok (.iinc 1 1, 3) := by decide +kernel
theorem dX12_acts_78 : decode cX12_acts 78 = .ok (.goto (-21), 3) := by decide +kernel
theorem dX12_acts_81 : decode cX12_acts 81 = .ok (.aload_n 0, 1) := by decide +kernel
theorem dX12_acts_82 : decode cX12_acts 82 = .ok (.iload_n 1, 1) := by decide +kernel
theorem dX12_acts_83 : decode cX12_acts 83 = .ok (.aload_n 0, 1) := by decide +kernel
theorem dX12_acts_84 : decode cX12_acts 84 = .ok (.getfield 366, 3) := by decide +kernel
theorem dX12_acts_87 : decode cX12_acts 87 = .ok (.if_icmp .ge 7, 3) := by decide +kernel
theorem dX12_acts_90 : decode cX12_acts 90 = .ok (.iload_n 1, 1) := by decide +kernel
theorem dX12_acts_91 : decode cX12_acts 91 = .ok (.goto 4, 3) := by decide +kernel
theorem dX12_acts_94 : decode cX12_acts 94 = .ok (.iconst (-1), 1) := by decide +kernel
theorem dX12_acts_95 : decode cX12_acts 95 = .ok (.putfield 54, 3) := by decide +kernel
theorem dX12_acts_98 : decode cX12_acts 98 = .ok (.iload_n 1, 1) := by decide +kernel
theorem dX12_acts_99 : decode cX12_acts 99 = .ok (.ireturn, 1) := by decide +kernel
theorem dX12_ended_0 : decode cX12_ended 0 = .ok (.aload_n 0, 1) := by decide +kernel
theorem dX12_ended_1 : decode cX12_ended 1 = .ok (.getfield 54, 3) := by decide +kernel
theorem dX12_ended_4 : decode cX12_ended 4 = .ok (.ireturn, 1) := by decide +kernel
theorem dX12_writes_0 : decode cX12_writes 0 = .ok (.aload_n 0, 1) := by decide +kernel
theorem dX12_writes_1 : decode cX12_writes 1 = .ok (.getfield 57, 3) := by decide +kernel
theorem dX12_writes_4 : decode cX12_writes 4 = .ok (.aload_n 0, 1) := by decide +kernel
theorem dX12_writes_5 : decode cX12_writes 5 = .ok (.getfield 387, 3) := by decide +kernel
theorem dX12_writes_8 : decode cX12_writes 8 = .ok (.iload_n 1, 1) := by decide +kernel
theorem dX12_writes_9 : decode cX12_writes 9 = .ok (.i2b, 1) := by decide +kernel
theorem dX12_writes_10 : decode cX12_writes 10 = .ok (.bastore, 1) := by decide +kernel
theorem dX12_writes_11 : decode cX12_writes 11 = .ok (.aload_n 0, 1) := by decide +kernel
theorem dX12_writes_12 : decode cX12_writes 12 = .ok (.dup, 1) := by decide +kernel
theorem dX12_writes_13 : decode cX12_writes 13 = .ok (.getfield 387, 3) := by decide +kernel
theorem dX12_writes_16 : decode cX12_writes 16 = .ok (.iconst 1, 1) := by decide +kernel
theorem dX12_writes_17 : decode cX12_writes 17 = .ok (.iadd, 1) := by decide +kernel
theorem dX12_writes_18 : decode cX12_writes 18 = .ok (.putfield 387, 3) := by decide +kernel
theorem dX12_writes_21 : decode cX12_writes 21 = .ok (.return_, 1) := by decide +kernel
theorem dX12_writeNumber_0 : decode cX12_writeNumber 0 = .ok (.iconst 1, 1) := by decide +kernel
theorem dX12_writeNumber_1 : decode cX12_writeNumber 1 = .ok (.istore_n 3, 1) := by decide +kernel
theorem dX12_writeNumber_2 : decode cX12_writeNumber 2 = .ok (.iload_n 1, 1) := by decide +kernel
theorem dX12_writeNumber_3 : decode cX12_writeNumber 3 = .ok (.iload_n 3, 1) := by decide +kernel
theorem dX12_writeNumber_4 : decode cX12_writeNumber 4 = .ok (.idiv, 1) := by decide +kernel
theorem dX12_writeNumber_5 : decode cX12_writeNumber 5 = .ok (.bipush 9, 2) := by decide +kernel
theorem dX12_writeNumber_7 : decode cX12_writeNumber 7 = .ok (.if_icmp .le 11, 3) := by decide +kernel
theorem dX12_writeNumber_10 : decode cX12_writeNumber 10 = .ok (.iload_n 3, 1) := by decide +kernel
theorem dX12_writeNumber_11 : decode cX12_writeNumber 11 = .ok (.bipush 10, 2) := by decide +kernel
theorem dX12_writeNumber_13 : decode cX12_writeNumber 13 = .ok (.imul, 1) := by decide +kernel
theorem dX12_writeNumber_14 : decode cX12_writeNumber 14 = .ok (.istore_n 3, 1) := by decide +kernel
theorem dX12_writeNumber_15 : decode cX12_writeNumber 15 = .ok (.goto (-13), 3) := by decide +kernel
theorem dX12_writeNumber_18 : decode cX12_writeNumber 18 = .ok (.iload_n 3, 1) := by decide +kernel
theorem dX12_writeNumber_19 : decode cX12_writeNumber 19 = .ok (.ifCond .le 24, 3) := by decide +kernel
theorem dX12_writeNumber_22 : decode cX12_writeNumber 22 = .ok (.aload_n 0, 1) := by decide +kernel
theorem dX12_writeNumber_23 : decode cX12_writeNumber 23 = .ok (.bipush 48, 2) := by decide +kernel
theorem dX12_writeNumber_25 : decode cX12_writeNumber 25 = .ok (.iload_n 1, 1) := by decide +kernel
theorem dX12_writeNumber_26 : decode cX12_writeNumber 26 = .ok (.iload_n 3, 1) := by decide +kernel
theorem dX12_writeNumber_27 : decode cX12_writeNumber 27 = .ok (.idiv, 1) := by decide +kernel
theorem dX12_writeNumber_28 : decode cX12_writeNumber 28 = .ok (.bipush 10, 2) := by decide +kernel
theorem dX12_writeNumber_30 : decode cX12_writeNumber 30 = .ok (.irem, 1) := by decide +kernel
theorem dX12_writeNumber_31 : decode cX12_writeNumber 31 = .ok (.iadd, 1) := by decide +kernel
theorem dX12_writeNumber_32 : decode cX12_writeNumber 32 = .ok (.invokevirtual 390, 3) := by decide +kernel
theorem dX12_writeNumber_35 : decode cX12_writeNumber 35 = .ok (.iload_n 3, 1) := by decide +kernel
theorem dX12_writeNumber_36 : decode cX12_writeNumber 36 = .ok (.bipush 10, 2) := by decide +kernel
theorem dX12_writeNumber_38 : decode cX12_writeNumber 38 = .ok (.idiv, 1) := by decide +kernel
theorem dX12_writeNumber_39 : decode cX12_writeNumber 39 = .ok (.istore_n 3, 1) := by decide +kernel
theorem dX12_writeNumber_40 : decode cX12_writeNumber 40 = .ok (.goto (-22), 3) := by decide +kernel
theorem dX12_writeNumber_43 : decode cX12_writeNumber 43 = .ok (.aload_n 0, 1) := by decide +kernel
theorem dX12_writeNumber_44 : decode cX12_writeNumber 44 = .ok (.iload_n 2, 1) := by decide +kernel
theorem dX12_writeNumber_45 : decode cX12_writeNumber 45 = .ok (.invokevirtual 390, 3) := by decide +kernel
theorem dX12_writeNumber_48 : decode cX12_writeNumber 48 = .ok (.return_, 1) := by decide +kernel
theorem dX12_write_0 : decode cX12_write 0 = .ok (.aload_n 0, 1) := by decide +kernel
theorem dX12_write_1 : decode cX12_write 1 = .ok (.iconst 0, 1) := by decide +kernel
theorem dX12_write_2 : decode cX12_write 2 = .ok (.putfield 387, 3) := by decide +kernel
theorem dX12_write_5 : decode cX12_write 5 = .ok (.aload_n 0, 1) := by decide +kernel
theorem dX12_write_6 : decode cX12_write 6 = .ok (.bipush 100, 2) := by decide +kernel
theorem dX12_write_8 : decode cX12_write 8 = .ok (.invokevirtual 390, 3) := by decide +kernel
theorem dX12_write_11 : decode cX12_write 11 = .ok (.aload_n 0, 1) := by decide +kernel
theorem dX12_write_12 : decode cX12_write 12 = .ok (.aload_n 0, 1) := by decide +kernel
theorem dX12_write_13 : decode cX12_write 13 = .ok (.getfield 3, 3) := by decide +kernel
theorem dX12_write_16 : decode cX12_write 16 = .ok (.iconst 2, 1) := by decide +kernel
theorem dX12_write_17 : decode cX12_write 17 = .ok (.iaload, 1) := by decide +kernel
theorem dX12_write_18 : decode cX12_write 18 = .ok (.bipush 44, 2) := by decide +kernel
theorem dX12_write_20 : decode cX12_write 20 = .ok (.invokevirtual 393, 3) := by decide +kernel
theorem dX12_write_23 : decode cX12_write 23 = .ok (.aload_n 0, 1) := by decide +kernel
theorem dX12_write_24 : decode cX12_write 24 = .ok (.aload_n 0, 1) := by decide +kernel
theorem dX12_write_25 : decode cX12_write 25 = .ok (.getfield 3, 3) := by decide +kernel
theorem dX12_write_28 : decode cX12_write 28 = .ok (.iconst 3, 1) := by decide +kernel
theorem dX12_write_29 : decode cX12_write 29 = .ok (.iaload, 1) := by decide +kernel
theorem dX12_write_30 : decode cX12_write 30 = .ok (.bipush 44, 2) := by decide +kernel
theorem dX12_write_32 : decode cX12_write 32 = .ok (.invokevirtual 393, 3) := by decide +kernel
theorem dX12_write_35 : decode cX12_write 35 = .ok (.aload_n 0, 1) := by decide +kernel
theorem dX12_write_36 : decode cX12_write 36 = .ok (.aload_n 0, 1) := by decide +kernel
theorem dX12_write_37 : decode cX12_write 37 = .ok (.getfield 3, 3) := by decide +kernel
theorem dX12_write_40 : decode cX12_write 40 = .ok (.iconst 4, 1) := by decide +kernel
theorem dX12_write_41 : decode cX12_write 41 = .ok (.iaload, 1) := by decide +kernel
theorem dX12_write_42 : decode cX12_write 42 = .ok (.bipush 59, 2) := by decide +kernel
theorem dX12_write_44 : decode cX12_write 44 = .ok (.invokevirtual 393, 3) := by decide +kernel
theorem dX12_write_47 : decode cX12_write 47 = .ok (.aload_n 0, 1) := by decide +kernel
theorem dX12_write_48 : decode cX12_write 48 = .ok (.bipush 99, 2) := by decide +kernel
theorem dX12_write_50 : decode cX12_write 50 = .ok (.invokevirtual 390, 3) := by decide +kernel
theorem dX12_write_53 : decode cX12_write 53 = .ok (.aload_n 0, 1) := by decide +kernel
theorem dX12_write_54 : decode cX12_write 54 = .ok (.aload_n 0, 1) := by decide +kernel
theorem dX12_write_55 : decode cX12_write 55 = .ok (.getfield 3, 3) := by decide +kernel
theorem dX12_write_58 : decode cX12_write 58 = .ok (.iconst 5, 1) := by decide +kernel
theorem dX12_write_59 : decode cX12_write 59 = .ok (.iaload, 1) := by decide +kernel
theorem dX12_write_60 : decode cX12_write 60 = .ok (.bipush 59, 2) := by decide +kernel
theorem dX12_write_62 : decode cX12_write 62 = .ok (.invokevirtual 393, 3) := by decide +kernel
theorem dX12_write_65 : decode cX12_write 65 = .ok (.aload_n 0, 1) := by decide +kernel
theorem dX12_write_66 : decode cX12_write 66 = .ok (.bipush 109, 2) := by decide +kernel
theorem dX12_write_68 : decode cX12_write 68 = .ok (.invokevirtual 390, 3) := by decide +kernel
theorem dX12_write_71 : decode cX12_write 71 = .ok (.aload_n 0, 1) := by decide +kernel
theorem dX12_write_72 : decode cX12_write 72 = .ok (.aload_n 0, 1) := by decide +kernel
theorem dX12_write_73 : decode cX12_write 73 = .ok (.getfield 3, 3) := by decide +kernel
theorem dX12_write_76 : decode cX12_write 76 = .ok (.bipush 6, 2) := by decide +kernel
theorem dX12_write_78 : decode cX12_write 78 = .ok (.iaload, 1) := by decide +kernel
theorem dX12_write_79 : decode cX12_write 79 = .ok (.bipush 59, 2) := by decide +kernel
theorem dX12_write_81 : decode cX12_write 81 = .ok (.invokevirtual 393, 3) := by decide +kernel
theorem dX12_write_84 : decode cX12_write 84 = .ok (.iconst 0, 1) := by decide +kernel
theorem dX12_write_85 : decode cX12_write 85 = .ok (.istore_n 1, 1) := by decide +kernel
theorem dX12_write_86 : decode cX12_write 86 = .ok (.iload_n 1, 1) := by decide +kernel
theorem dX12_write_87 : decode cX12_write 87 = .ok (.bipush 20, 2) := by decide +kernel
theorem dX12_write_89 : decode cX12_write 89 = .ok (.if_icmp .ge 37, 3) := by decide +kernel
theorem dX12_write_92 : decode cX12_write 92 = .ok (.aload_n 0, 1) := by decide +kernel
theorem dX12_write_93 : decode cX12_write 93 = .ok (.bipush 108, 2) := by decide +kernel
theorem dX12_write_95 : decode cX12_write 95 = .ok (.invokevirtual 390, 3) := by decide +kernel
theorem dX12_write_98 : decode cX12_write 98 = .ok (.aload_n 0, 1) := by decide +kernel
theorem dX12_write_99 : decode cX12_write 99 = .ok (.iload_n 1, 1) := by decide +kernel
theorem dX12_write_100 : decode cX12_write 100 = .ok (.bipush 44, 2) := by decide +kernel
theorem dX12_write_102 : decode cX12_write 102 = .ok (.invokevirtual 393, 3) := by decide +kernel
theorem dX12_write_105 : decode cX12_write 105 = .ok (.aload_n 0, 1) := by decide +kernel
theorem dX12_write_106 : decode cX12_write 106 = .ok (.aload_n 0, 1) := by decide +kernel
theorem dX12_write_107 : decode cX12_write 107 = .ok (.getfield 3, 3) := by decide +kernel
theorem dX12_write_110 : decode cX12_write 110 = .ok (.bipush 10, 2) := by decide +kernel
theorem dX12_write_112 : decode cX12_write 112 = .ok (.iload_n 1, 1) := by decide +kernel
theorem dX12_write_113 : decode cX12_write 113 = .ok (.iadd, 1) := by decide +kernel
theorem dX12_write_114 : decode cX12_write 114 = .ok (.iaload, 1) := by decide +kernel
theorem dX12_write_115 : decode cX12_write 115 = .ok (.bipush 59, 2) := by decide +kernel
theorem dX12_write_117 : decode cX12_write 117 = .ok (.invokevirtual 393, 3) := by decide +kernel
theorem dX12_write_120 : decode cX12_write 120 = .ok (.iinc 1 1, 3) := by decide +kernel
theorem dX12_write_123 : decode cX12_write 123 = .ok (.goto (-37), 3) := by decide +kernel
theorem dX12_write_126 : decode cX12_write 126 = .ok (.aload_n 0, 1) := by decide +kernel
theorem dX12_write_127 : decode cX12_write 127 = .ok (.getfield 387, 3) := by decide +kernel
theorem dX12_write_130 : decode cX12_write 130 = .ok (.ireturn, 1) := by decide +kernel
theorem dX12_octet_0 : decode cX12_octet 0 = .ok (.iload_n 1, 1) := by decide +kernel
theorem dX12_octet_1 : decode cX12_octet 1 = .ok (.i2l, 1) := by decide +kernel
theorem dX12_octet_2 : decode cX12_octet 2 = .ok (.lconst 0, 1) := by decide +kernel
theorem dX12_octet_3 : decode cX12_octet 3 = .ok (.aload_n 0, 1) := by decide +kernel
theorem dX12_octet_4 : decode cX12_octet 4 = .ok (.getfield 387, 3) := by decide +kernel
theorem dX12_octet_7 : decode cX12_octet 7 = .ok (.iconst 1, 1) := by decide +kernel
theorem dX12_octet_8 : decode cX12_octet 8 = .ok (.isub, 1) := by decide +kernel
theorem dX12_octet_9 : decode cX12_octet 9 = .ok (.i2l, 1) := by decide +kernel
theorem dX12_octet_10 : decode cX12_octet 10 = .ok (.invokestatic 68, 3) := by decide +kernel
theorem dX12_octet_13 : decode cX12_octet 13 = .ok (.ifCond .eq 12, 3) := by decide +kernel
theorem dX12_octet_16 : decode cX12_octet 16 = .ok (.aload_n 0, 1) := by decide +kernel
theorem dX12_octet_17 : decode cX12_octet 17 = .ok (.getfield 57, 3) := by decide +kernel
theorem dX12_octet_20 : decode cX12_octet 20 = .ok (.iload_n 1, 1) := by decide +kernel
theorem dX12_octet_21 : decode cX12_octet 21 = .ok (.baload, 1) := by decide +kernel
theorem dX12_octet_22 : decode cX12_octet 22 = .ok (.goto 4, 3) := by decide +kernel
theorem dX12_octet_25 : decode cX12_octet 25 = .ok (.iconst (-1), 1) := by decide +kernel
theorem dX12_octet_26 : decode cX12_octet 26 = .ok (.ireturn, 1) := by decide +kernel
