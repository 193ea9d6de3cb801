theorem dX11_init_0 : decode cX11_init 0 = .ok (.aload_n 0, 1) := by decide +kernel
theorem dX11_init_1 : decode cX11_init 1 = .ok (.invokespecial 1, 3) := by decide +kernel
theorem dX11_init_4 : decode cX11_init 4 = .ok (.aload_n 0, 1) := by decide +kernel
theorem dX11_init_5 : decode cX11_init 5 = .ok (.new 7, 3) := by decide +kernel
theorem dX11_init_8 : decode cX11_init 8 = .ok (.dup, 1) := by decide +kernel
theorem dX11_init_9 : decode cX11_init 9 = .ok (.invokespecial 9, 3) := by decide +kernel
theorem dX11_init_12 : decode cX11_init 12 = .ok (.putfield 10, 3) := by decide +kernel
theorem dX11_init_15 : decode cX11_init 15 = .ok (.aload_n 0, 1) := by decide +kernel
theorem dX11_init_16 : decode cX11_init 16 = .ok (.new 7, 3) := by decide +kernel
theorem dX11_init_19 : decode cX11_init 19 = .ok (.dup, 1) := by decide +kernel
theorem dX11_init_20 : decode cX11_init 20 = .ok (.invokespecial 9, 3) := by decide +kernel
theorem dX11_init_23 : decode cX11_init 23 = .ok (.putfield 16, 3) := by decide +kernel
theorem dX11_init_26 : decode cX11_init 26 = .ok (.aload_n 0, 1) := by decide +kernel
theorem dX11_init_27 : decode cX11_init 27 = .ok (.iconst 2, 1) := by decide +kernel
theorem dX11_init_28 : decode cX11_init 28 = .ok (.anewarray 7, 3) := by decide +kernel
theorem dX11_init_31 : decode cX11_init 31 = .ok (.putfield 19, 3) := by decide +kernel
theorem dX11_init_34 : decode cX11_init 34 = .ok (.aload_n 0, 1) := by decide +kernel
theorem dX11_init_35 : decode cX11_init 35 = .ok (.new 23, 3) := by decide +kernel
theorem dX11_init_38 : decode cX11_init 38 = .ok (.dup, 1) := by decide +kernel
theorem dX11_init_39 : decode cX11_init 39 = .ok (.invokespecial 25, 3) := by decide +kernel
theorem dX11_init_42 : decode cX11_init 42 = .ok (.putfield 26, 3) := by decide +kernel
theorem dX11_init_45 : decode cX11_init 45 = .ok (.aload_n 0, 1) := by decide +kernel
theorem dX11_init_46 : decode cX11_init 46 = .ok (.new 30, 3) := by decide +kernel
theorem dX11_init_49 : decode cX11_init 49 = .ok (.dup, 1) := by decide +kernel
theorem dX11_init_50 : decode cX11_init 50 = .ok (.invokespecial 32, 3) := by decide +kernel
theorem dX11_init_53 : decode cX11_init 53 = .ok (.putfield 33, 3) := by decide +kernel
theorem dX11_init_56 : decode cX11_init 56 = .ok (.aload_n 0, 1) := by decide +kernel
theorem dX11_init_57 : decode cX11_init 57 = .ok (.new 37, 3) := by decide +kernel
theorem dX11_init_60 : decode cX11_init 60 = .ok (.dup, 1) := by decide +kernel
theorem dX11_init_61 : decode cX11_init 61 = .ok (.sipush 256, 3) := by decide +kernel
theorem dX11_init_64 : decode cX11_init 64 = .ok (.invokespecial 39, 3) := by decide +kernel
theorem dX11_init_67 : decode cX11_init 67 = .ok (.putfield 42, 3) := by decide +kernel
theorem dX11_init_70 : decode cX11_init 70 = .ok (.aload_n 0, 1) := by decide +kernel
theorem dX11_init_71 : decode cX11_init 71 = .ok (.new 46, 3) := by decide +kernel
theorem dX11_init_74 : decode cX11_init 74 = .ok (.dup, 1) := by decide +kernel
theorem dX11_init_75 : decode cX11_init 75 = .ok (.invokespecial 48, 3) := by decide +kernel
theorem dX11_init_78 : decode cX11_init 78 = .ok (.putfield 49, 3) := by decide +kernel
theorem dX11_init_81 : decode cX11_init 81 = .ok (.aload_n 0, 1) := by decide +kernel
theorem dX11_init_82 : decode cX11_init 82 = .ok (.new 53, 3) := by decide +kernel
theorem dX11_init_85 : decode cX11_init 85 = .ok (.dup, 1) := by decide +kernel
theorem dX11_init_86 : decode cX11_init 86 = .ok (.invokespecial 55, 3) := by decide +kernel
theorem dX11_init_89 : decode cX11_init 89 = .ok (.putfield 56, 3) := by decide +kernel
theorem dX11_init_92 : decode cX11_init 92 = .ok (.aload_n 0, 1) := by decide +kernel
theorem dX11_init_93 : decode cX11_init 93 = .ok (.new 60, 3) := by decide +kernel
theorem dX11_init_96 : decode cX11_init 96 = .ok (.dup, 1) := by decide +kernel
theorem dX11_init_97 : decode cX11_init 97 = .ok (.invokespecial 62, 3) := by decide +kernel
theorem dX11_init_100 : decode cX11_init 100 = .ok (.putfield 63, 3) := by decide +kernel
theorem dX11_init_103 : decode cX11_init 103 = .ok (.aload_n 0, 1) := by decide +kernel
theorem dX11_init_104 : decode cX11_init 104 = .ok (.iconst (-1), 1) := by decide +kernel
theorem dX11_init_105 : decode cX11_init 105 = .ok (.putfield 67, 3) := by decide +kernel
theorem dX11_init_108 : decode cX11_init 108 = .ok (.aload_n 0, 1) := by decide +kernel
theorem dX11_init_109 : decode cX11_init 109 = .ok (.iconst (-1), 1) := by decide +kernel
theorem dX11_init_110 : decode cX11_init 110 = .ok (.putfield 71, 3) := by decide +kernel
theorem dX11_init_113 : decode cX11_init 113 = .ok (.aload_n 0, 1) := by decide +kernel
theorem dX11_init_114 : decode cX11_init 114 = .ok (.iconst 0, 1) := by decide +kernel
theorem dX11_init_115 : decode cX11_init 115 = .ok (.putfield 74, 3) := by decide +kernel
theorem dX11_init_118 : decode cX11_init 118 = .ok (.return_, 1) := by decide +kernel
theorem dX11_feed_0 : decode cX11_feed 0 = .ok (.aload_n 0, 1) := by decide +kernel
theorem dX11_feed_1 : decode cX11_feed 1 = .ok (.getfield 33, 3) := by decide +kernel
theorem dX11_feed_4 : decode cX11_feed 4 = .ok (.getfield 77, 3) := by decide +kernel
theorem dX11_feed_7 : decode cX11_feed 7 = .ok (.astore 6, 2) := by decide +kernel
theorem dX11_feed_9 : decode cX11_feed 9 = .ok (.aload 6, 2) := by decide +kernel
theorem dX11_feed_11 : decode cX11_feed 11 = .ok (.getfield 80, 3) := by decide +kernel
theorem dX11_feed_14 : decode cX11_feed 14 = .ok (.sipush 480, 3) := by decide +kernel
theorem dX11_feed_17 : decode cX11_feed 17 = .ok (.if_icmp .le 5, 3) := by decide +kernel
theorem dX11_feed_20 : decode cX11_feed 20 = .ok (.iconst (-1), 1) := by decide +kernel
theorem dX11_feed_21 : decode cX11_feed 21 = .ok (.ireturn, 1) := by decide +kernel
theorem dX11_feed_22 : decode cX11_feed 22 = .ok (.aload 6, 2) := by decide +kernel
theorem dX11_feed_24 : decode cX11_feed 24 = .ok (.iload_n 1, 1) := by decide +kernel
theorem dX11_feed_25 : decode cX11_feed 25 = .ok (.invokevirtual 83, 3) := by decide +kernel
theorem dX11_feed_28 : decode cX11_feed 28 = .ok (.aload 6, 2) := by decide +kernel
theorem dX11_feed_30 : decode cX11_feed 30 = .ok (.iload_n 2, 1) := by decide +kernel
theorem dX11_feed_31 : decode cX11_feed 31 = .ok (.invokevirtual 83, 3) := by decide +kernel
theorem dX11_feed_34 : decode cX11_feed 34 = .ok (.aload 6, 2) := by decide +kernel
theorem dX11_feed_36 : decode cX11_feed 36 = .ok (.iload_n 3, 1) := by decide +kernel
theorem dX11_feed_37 : decode cX11_feed 37 = .ok (.invokevirtual 83, 3) := by decide +kernel
theorem dX11_feed_40 : decode cX11_feed 40 = .ok (.aload 6, 2) := by decide +kernel
theorem dX11_feed_42 : decode cX11_feed 42 = .ok (.iload 4, 2) := by decide +kernel
theorem dX11_feed_44 : decode cX11_feed 44 = .ok (.invokevirtual 83, 3) := by decide +kernel
theorem dX11_feed_47 : decode cX11_feed 47 = .ok (.aload 6, 2) := by decide +kernel
theorem dX11_feed_49 : decode cX11_feed 49 = .ok (.iload 5, 2) := by decide +kernel
theorem dX11_feed_51 : decode cX11_feed 51 = .ok (.invokevirtual 83, 3) := by decide +kernel
theorem dX11_feed_54 : decode cX11_feed 54 = .ok (.aload 6, 2) := by decide +kernel
theorem dX11_feed_56 : decode cX11_feed 56 = .ok (.getfield 80, 3) := by decide +kernel
theorem dX11_feed_59 : decode cX11_feed 59 = .ok (.ireturn, 1) := by decide +kernel
theorem dX11_end_0 : decode cX11_end 0 = .ok (.iload_n 1, 1) := by decide +kernel
theorem dX11_end_1 : decode cX11_end 1 = .ok (.ifCond .lt 17, 3) := by decide +kernel
theorem dX11_end_4 : decode cX11_end 4 = .ok (.iload_n 1, 1) := by decide +kernel
theorem dX11_end_5 : decode cX11_end 5 = .ok (.aload_n 0, 1) := by decide +kernel
theorem dX11_end_6 : decode cX11_end 6 = .ok (.getfield 33, 3) := by decide +kernel
theorem dX11_end_9 : decode cX11_end 9 = .ok (.getfield 77, 3) := by decide +kernel
theorem dX11_end_12 : decode cX11_end 12 = .ok (.getfield 80, 3) := by decide +kernel
theorem dX11_end_15 : decode cX11_end 15 = .ok (.if_icmp .le 5, 3) := by decide +kernel
theorem dX11_end_18 : decode cX11_end 18 = .ok (.iconst (-1), 1) := by decide +kernel
theorem dX11_end_19 : decode cX11_end 19 = .ok (.ireturn, 1) := by decide +kernel
theorem dX11_end_20 : decode cX11_end 20 = .ok (.aload_n 0, 1) := by decide +kernel
theorem dX11_end_21 : decode cX11_end 21 = .ok (.getfield 33, 3) := by decide +kernel
theorem dX11_end_24 : decode cX11_end 24 = .ok (.getfield 77, 3) := by decide +kernel
theorem dX11_end_27 : decode cX11_end 27 = .ok (.iload_n 1, 1) := by decide +kernel
theorem dX11_end_28 : decode cX11_end 28 = .ok (.putfield 80, 3) := by decide +kernel
theorem dX11_end_31 : decode cX11_end 31 = .ok (.iload_n 1, 1) := by decide +kernel
theorem dX11_end_32 : decode cX11_end 32 = .ok (.ireturn, 1) := by decide +kernel
theorem dX11_text_0 : decode cX11_text 0 = .ok (.aload_n 0, 1) := by decide +kernel
theorem dX11_text_1 : decode cX11_text 1 = .ok (.getfield 16, 3) := by decide +kernel
theorem dX11_text_4 : decode cX11_text 4 = .ok (.aload_n 0, 1) := by decide +kernel
theorem dX11_text_5 : decode cX11_text 5 = .ok (.getfield 10, 3) := by decide +kernel
theorem dX11_text_8 : decode cX11_text 8 = .ok (.invokevirtual 86, 3) := by decide +kernel
theorem dX11_text_11 : decode cX11_text 11 = .ok (.aload_n 0, 1) := by decide +kernel
theorem dX11_text_12 : decode cX11_text 12 = .ok (.getfield 33, 3) := by decide +kernel
theorem dX11_text_15 : decode cX11_text 15 = .ok (.invokevirtual 90, 3) := by decide +kernel
theorem dX11_text_18 : decode cX11_text 18 = .ok (.aload_n 0, 1) := by decide +kernel
theorem dX11_text_19 : decode cX11_text 19 = .ok (.aload_n 0, 1) := by decide +kernel
theorem dX11_text_20 : decode cX11_text 20 = .ok (.getfield 33, 3) := by decide +kernel
theorem dX11_text_23 : decode cX11_text 23 = .ok (.aload_n 0, 1) := by decide +kernel
theorem dX11_text_24 : decode cX11_text 24 = .ok (.getfield 16, 3) := by decide +kernel
theorem dX11_text_27 : decode cX11_text 27 = .ok (.invokevirtual 93, 3) := by decide +kernel
theorem dX11_text_30 : decode cX11_text 30 = .ok (.invokevirtual 97, 3) := by decide +kernel
theorem dX11_text_33 : decode cX11_text 33 = .ok (.ireturn, 1) := by decide +kernel
theorem dX11_policy_0 : decode cX11_policy 0 = .ok (.aload_n 0, 1) := by decide +kernel
theorem dX11_policy_1 : decode cX11_policy 1 = .ok (.getfield 16, 3) := by decide +kernel
theorem dX11_policy_4 : decode cX11_policy 4 = .ok (.aload_n 0, 1) := by decide +kernel
theorem dX11_policy_5 : decode cX11_policy 5 = .ok (.getfield 10, 3) := by decide +kernel
theorem dX11_policy_8 : decode cX11_policy 8 = .ok (.invokevirtual 86, 3) := by decide +kernel
theorem dX11_policy_11 : decode cX11_policy 11 = .ok (.aload_n 0, 1) := by decide +kernel
theorem dX11_policy_12 : decode cX11_policy 12 = .ok (.getfield 33, 3) := by decide +kernel
theorem dX11_policy_15 : decode cX11_policy 15 = .ok (.invokevirtual 90, 3) := by decide +kernel
theorem dX11_policy_18 : decode cX11_policy 18 = .ok (.aload_n 0, 1) := by decide +kernel
theorem dX11_policy_19 : decode cX11_policy 19 = .ok (.aload_n 0, 1) := by decide +kernel
theorem dX11_policy_20 : decode cX11_policy 20 = .ok (.getfield 16, 3) := by decide +kernel
theorem dX11_policy_23 : decode cX11_policy 23 = .ok (.getfield 101, 3) := by decide +kernel
theorem dX11_policy_26 : decode cX11_policy 26 = .ok (.aload_n 0, 1) := by decide +kernel
theorem dX11_policy_27 : decode cX11_policy 27 = .ok (.getfield 33, 3) := by decide +kernel
theorem dX11_policy_30 : decode cX11_policy 30 = .ok (.invokevirtual 105, 3) := by decide +kernel
theorem dX11_policy_33 : decode cX11_policy 33 = .ok (.invokevirtual 97, 3) := by decide +kernel
theorem dX11_policy_36 : decode cX11_policy 36 = .ok (.ireturn, 1) := by decide +kernel
theorem dX11_market_0 : decode cX11_market 0 = .ok (.aload_n 0, 1) := by decide +kernel
theorem dX11_market_1 : decode cX11_market 1 = .ok (.getfield 16, 3) := by decide +kernel
theorem dX11_market_4 : decode cX11_market 4 = .ok (.aload_n 0, 1) := by decide +kernel
theorem dX11_market_5 : decode cX11_market 5 = .ok (.getfield 10, 3) := by decide +kernel
theorem dX11_market_8 : decode cX11_market 8 = .ok (.invokevirtual 86, 3) := by decide +kernel
theorem dX11_market_11 : decode cX11_market 11 = .ok (.aload_n 0, 1) := by decide +kernel
theorem dX11_market_12 : decode cX11_market 12 = .ok (.getfield 33, 3) := by decide +kernel
theorem dX11_market_15 : decode cX11_market 15 = .ok (.invokevirtual 90, 3) := by decide +kernel
theorem dX11_market_18 : decode cX11_market 18 = .ok (.aload_n 0, 1) := by decide +kernel
theorem dX11_market_19 : decode cX11_market 19 = .ok (.aload_n 0, 1) := by decide +kernel
theorem dX11_market_20 : decode cX11_market 20 = .ok (.getfield 16, 3) := by decide +kernel
theorem dX11_market_23 : decode cX11_market 23 = .ok (.getfield 111, 3) := by decide +kernel
theorem dX11_market_26 : decode cX11_market 26 = .ok (.aload_n 0, 1) := by decide +kernel
theorem dX11_market_27 : decode cX11_market 27 = .ok (.getfield 33, 3) := by decide +kernel
theorem dX11_market_30 : decode cX11_market 30 = .ok (.aload_n 0, 1) := by decide +kernel
theorem dX11_market_31 : decode cX11_market 31 = .ok (.getfield 16, 3) := by decide +kernel
theorem dX11_market_34 : decode cX11_market 34 = .ok (.getfield 115, 3) := by decide +kernel
theorem dX11_market_37 : decode cX11_market 37 = .ok (.invokevirtual 118, 3) := by decide +kernel
theorem dX11_market_40 : decode cX11_market 40 = .ok (.invokevirtual 97, 3) := by decide +kernel
theorem dX11_market_43 : decode cX11_market 43 = .ok (.ireturn, 1) := by decide +kernel
theorem dX11_acts_0 : decode cX11_acts 0 = .ok (.aload_n 0, 1) := by decide +kernel
theorem dX11_acts_1 : decode cX11_acts 1 = .ok (.getfield 33, 3) := by decide +kernel
theorem dX11_acts_4 : decode cX11_acts 4 = .ok (.invokevirtual 90, 3) := by decide +kernel
theorem dX11_acts_7 : decode cX11_acts 7 = .ok (.aload_n 0, 1) := by decide +kernel
theorem dX11_acts_8 : decode cX11_acts 8 = .ok (.getfield 49, 3) := by decide +kernel
theorem dX11_acts_11 : decode cX11_acts 11 = .ok (.aload_n 0, 1) := by decide +kernel
theorem dX11_acts_12 : decode cX11_acts 12 = .ok (.getfield 33, 3) := by decide +kernel
theorem dX11_acts_15 : decode cX11_acts 15 = .ok (.invokevirtual 123, 3) := by decide +kernel
theorem dX11_acts_18 : decode cX11_acts 18 = .ok (.aload_n 0, 1) := by decide +kernel
theorem dX11_acts_19 : decode cX11_acts 19 = .ok (.aload_n 0, 1) := by decide +kernel
theorem dX11_acts_20 : decode cX11_acts 20 = .ok (.getfield 33, 3) := by decide +kernel
theorem dX11_acts_23 : decode cX11_acts 23 = .ok (.invokevirtual 126, 3) := by decide +kernel
theorem dX11_acts_26 : decode cX11_acts 26 = .ok (.putfield 67, 3) := by decide +kernel
theorem dX11_acts_29 : decode cX11_acts 29 = .ok (.aload_n 0, 1) := by decide +kernel
theorem dX11_acts_30 : decode cX11_acts 30 = .ok (.getfield 67, 3) := by decide +kernel
theorem dX11_acts_33 : decode cX11_acts 33 = .ok (.iconst (-1), 1) := by decide +kernel
theorem dX11_acts_34 : decode cX11_acts 34 = .ok (.if_icmp .eq 5, 3) := by decide +kernel
theorem dX11_acts_37 : decode cX11_acts 37 = .ok (.iconst (-1), 1) := by decide +kernel
theorem dX11_acts_38 : decode cX11_acts 38 = .ok (.ireturn, 1) := by decide +kernel
theorem dX11_acts_39 : decode cX11_acts 39 = .ok (.aload_n 0, 1) := by decide +kernel
theorem dX11_acts_40 : decode cX11_acts 40 = .ok (.iconst (-1), 1) := by decide +kernel
theorem dX11_acts_41 : decode cX11_acts 41 = .ok (.putfield 71, 3) := by decide +kernel
theorem dX11_acts_44 : decode cX11_acts 44 = .ok (.iconst 0, 1) := by decide +kernel
theorem dX11_acts_45 : decode cX11_acts 45 = .ok (.istore_n 1, 1) := by decide +kernel
theorem dX11_acts_46 : decode cX11_acts 46 = .ok (.iload_n 1, 1) := by decide +kernel
theorem dX11_acts_47 : decode cX11_acts 47 = .ok (.aload_n 0, 1) := by decide +kernel
theorem dX11_acts_48 : decode cX11_acts 48 = .ok (.getfield 49, 3) := by decide +kernel
theorem dX11_acts_51 : decode cX11_acts 51 = .ok (.getfield 130, 3) := by decide +kernel
theorem dX11_acts_54 : decode cX11_acts 54 = .ok (.if_icmp .ge 24, 3) := by decide +kernel
theorem dX11_acts_57 : decode cX11_acts 57 = .ok (.aload_n 0, 1) := by decide +kernel
theorem dX11_acts_58 : decode cX11_acts 58 = .ok (.iload_n 1, 1) := by decide +kernel
theorem dX11_acts_59 : decode cX11_acts 59 = .ok (.invokevirtual 131, 3) := by decide +kernel
theorem dX11_acts_62 : decode cX11_acts 62 = .ok (.ifCond .ne 10, 3) := by decide +kernel
theorem dX11_acts_65 : decode cX11_acts 65 = .ok (.aload_n 0, 1) := by decide +kernel
theorem dX11_acts_66 : decode cX11_acts 66 = .ok (.iload_n 1, 1) := by decide +kernel
theorem dX11_acts_67 : decode cX11_acts 67 = .ok (.putfield 71, 3) := by decide +kernel
theorem dX11_acts_70 : decode cX11_acts 70 = .ok (.iload_n 1, 1) := by decide +kernel
theorem dX11_acts_71 : decode cX11_acts 71 = .ok (.ireturn, 1) := by decide +kernel
theorem dX11_acts_72 : decode cX11_acts 72 = .ok (.iinc 1 1, 3) := by decide +kernel
theorem dX11_acts_75 : decode cX11_acts 75 = .ok (.goto (-29), 3) := by decide +kernel
theorem dX11_acts_78 : decode cX11_acts 78 = .ok (.aload_n 0, 1) := by decide +kernel
theorem dX11_acts_79 : decode cX11_acts 79 = .ok (.getfield 49, 3) := by decide +kernel
theorem dX11_acts_82 : decode cX11_acts 82 = .ok (.getfield 130, 3) := by decide +kernel
theorem dX11_acts_85 : decode cX11_acts 85 = .ok (.ireturn, 1) := by decide +kernel
theorem dX11_fault_0 : decode cX11_fault 0 = .ok (.aload_n 0, 1) := by decide +kernel
theorem dX11_fault_1 : decode cX11_fault 1 = .ok (.getfield 67, 3) := by decide +kernel
theorem dX11_fault_4 : decode cX11_fault 4 = .ok (.ireturn, 1) := by decide +kernel
theorem dX11_ended_0 : decode cX11_ended 0 = .ok (.aload_n 0, 1) := by decide +kernel
theorem dX11_ended_1 : decode cX11_ended 1 = .ok (.getfield 71, 3) := by decide +kernel
theorem dX11_ended_4 : decode cX11_ended 4 = .ok (.ireturn, 1) := by decide +kernel
theorem dX11_why_0 : decode cX11_why 0 = .ok (.aload_n 0, 1) := by decide +kernel
theorem dX11_why_1 : decode cX11_why 1 = .ok (.getfield 74, 3) := by decide +kernel
theorem dX11_why_4 : decode cX11_why 4 = .ok (.ireturn, 1) := by decide +kernel
theorem dX11_is_0 : decode cX11_is 0 = .ok (.iload_n 1, 1) := by decide +kernel
theorem dX11_is_1 : decode cX11_is 1 = .ok (.tableswitch 177 0 12 #[67, 75, 83, 91, 99, 107, 115, 123, 131, 140, 149, 158, 166], 67) := by decide +kernel
theorem dX11_is_68 : decode cX11_is 68 = .ok (.aload_n 0, 1) := by decide +kernel
theorem dX11_is_69 : decode cX11_is 69 = .ok (.getfield 10, 3) := by decide +kernel
theorem dX11_is_72 : decode cX11_is 72 = .ok (.getfield 135, 3) := by decide +kernel
theorem dX11_is_75 : decode cX11_is 75 = .ok (.ireturn, 1) := by decide +kernel
theorem dX11_is_76 : decode cX11_is 76 = .ok (.aload_n 0, 1) := by decide +kernel
theorem dX11_is_77 : decode cX11_is 77 = .ok (.getfield 10, 3) := by decide +kernel
theorem dX11_is_80 : decode cX11_is 80 = .ok (.getfield 138, 3) := by decide +kernel
theorem dX11_is_83 : decode cX11_is 83 = .ok (.ireturn, 1) := by decide +kernel
theorem dX11_is_84 : decode cX11_is 84 = .ok (.aload_n 0, 1) := by decide +kernel
theorem dX11_is_85 : decode cX11_is 85 = .ok (.getfield 10, 3) := by decide +kernel
theorem dX11_is_88 : decode cX11_is 88 = .ok (.getfield 141, 3) := by decide +kernel
theorem dX11_is_91 : decode cX11_is 91 = .ok (.ireturn, 1) := by decide +kernel
theorem dX11_is_92 : decode cX11_is 92 = .ok (.aload_n 0, 1) := by decide +kernel
theorem dX11_is_93 : decode cX11_is 93 = .ok (.getfield 10, 3) := by decide +kernel
theorem dX11_is_96 : decode cX11_is 96 = .ok (.getfield 144, 3) := by decide +kernel
theorem dX11_is_99 : decode cX11_is 99 = .ok (.ireturn, 1) := by decide +kernel
theorem dX11_is_100 : decode cX11_is 100 = .ok (.aload_n 0, 1) := by decide +kernel
theorem dX11_is_101 : decode cX11_is 101 = .ok (.getfield 10, 3) := by decide +kernel
theorem dX11_is_104 : decode cX11_is 104 = .ok (.getfield 147, 3) := by decide +kernel
theorem dX11_is_107 : decode cX11_is 107 = .ok (.ireturn, 1) := by decide +kernel
theorem dX11_is_108 : decode cX11_is 108 = .ok (.aload_n 0, 1) := by decide +kernel
theorem dX11_is_109 : decode cX11_is 109 = .ok (.getfield 10, 3) := by decide +kernel
theorem dX11_is_112 : decode cX11_is 112 = .ok (.getfield 150, 3) := by decide +kernel
theorem dX11_is_115 : decode cX11_is 115 = .ok (.ireturn, 1) := by decide +kernel
theorem dX11_is_116 : decode cX11_is 116 = .ok (.aload_n 0, 1) := by decide +kernel
theorem dX11_is_117 : decode cX11_is 117 = .ok (.getfield 10, 3) := by decide +kernel
theorem dX11_is_120 : decode cX11_is 120 = .ok (.getfield 115, 3) := by decide +kernel
theorem dX11_is_123 : decode cX11_is 123 = .ok (.ireturn, 1) := by decide +kernel
theorem dX11_is_124 : decode cX11_is 124 = .ok (.aload_n 0, 1) := by decide +kernel
theorem dX11_is_125 : decode cX11_is 125 = .ok (.getfield 10, 3) := by decide +kernel
theorem dX11_is_128 : decode cX11_is 128 = .ok (.getfield 153, 3) := by decide +kernel
theorem dX11_is_131 : decode cX11_is 131 = .ok (.ireturn, 1) := by decide +kernel
theorem dX11_is_132 : decode cX11_is 132 = .ok (.aload_n 0, 1) := by decide +kernel
theorem dX11_is_133 : decode cX11_is 133 = .ok (.getfield 10, 3) := by decide +kernel
theorem dX11_is_136 : decode cX11_is 136 = .ok (.iconst 0, 1) := by decide +kernel
theorem dX11_is_137 : decode cX11_is 137 = .ok (.invokevirtual 154, 3) := by decide +kernel
theorem dX11_is_140 : decode cX11_is 140 = .ok (.ireturn, 1) := by decide +kernel
theorem dX11_is_141 : decode cX11_is 141 = .ok (.aload_n 0, 1) := by decide +kernel
theorem dX11_is_142 : decode cX11_is 142 = .ok (.getfield 10, 3) := by decide +kernel
theorem dX11_is_145 : decode cX11_is 145 = .ok (.iconst 1, 1) := by decide +kernel
theorem dX11_is_146 : decode cX11_is 146 = .ok (.invokevirtual 154, 3) := by decide +kernel
theorem dX11_is_149 : decode cX11_is 149 = .ok (.ireturn, 1) := by decide +kernel
theorem dX11_is_150 : decode cX11_is 150 = .ok (.aload_n 0, 1) := by decide +kernel
theorem dX11_is_151 : decode cX11_is 151 = .ok (.getfield 10, 3) := by decide +kernel
theorem dX11_is_154 : decode cX11_is 154 = .ok (.iconst 2, 1) := by decide +kernel
theorem dX11_is_155 : decode cX11_is 155 = .ok (.invokevirtual 154, 3) := by decide +kernel
theorem dX11_is_158 : decode cX11_is 158 = .ok (.ireturn, 1) := by decide +kernel
theorem dX11_is_159 : decode cX11_is 159 = .ok (.aload_n 0, 1) := by decide +kernel
theorem dX11_is_160 : decode cX11_is 160 = .ok (.getfield 26, 3) := by decide +kernel
theorem dX11_is_163 : decode cX11_is 163 = .ok (.getfield 157, 3) := by decide +kernel
theorem dX11_is_166 : decode cX11_is 166 = .ok (.ireturn, 1) := by decide +kernel
theorem dX11_is_167 : decode cX11_is 167 = .ok (.aload_n 0, 1) := by decide +kernel
theorem dX11_is_168 : decode cX11_is 168 = .ok (.getfield 33, 3) := by decide +kernel
theorem dX11_is_171 : decode cX11_is 171 = .ok (.getfield 77, 3) := by decide +kernel
theorem dX11_is_174 : decode cX11_is 174 = .ok (.getfield 80, 3) := by decide +kernel
theorem dX11_is_177 : decode cX11_is 177 = .ok (.ireturn, 1) := by decide +kernel
theorem dX11_is_178 : decode cX11_is 178 = .ok (.iconst (-1), 1) := by decide +kernel
theorem dX11_is_179 : decode cX11_is 179 = .ok (.ireturn, 1) := by decide +kernel
theorem dX11_limit_0 : decode cX11_limit 0 = .ok (.iload_n 1, 1) := by decide +kernel
theorem dX11_limit_1 : decode cX11_limit 1 = .ok (.invokestatic 158, 3) := by decide +kernel
theorem dX11_limit_4 : decode cX11_limit 4 = .ok (.ifCond .eq 15, 3) := by decide +kernel
theorem dX11_limit_7 : decode cX11_limit 7 = .ok (.aload_n 0, 1) := by decide +kernel
theorem dX11_limit_8 : decode cX11_limit 8 = .ok (.getfield 10, 3) := by decide +kernel
theorem dX11_limit_11 : decode cX11_limit 11 = .ok (.getfield 161, 3) := by decide +kernel
theorem dX11_limit_14 : decode cX11_limit 14 = .ok (.iload_n 1, 1) := by decide +kernel
theorem dX11_limit_15 : decode cX11_limit 15 = .ok (.iaload, 1) := by decide +kernel
theorem dX11_limit_16 : decode cX11_limit 16 = .ok (.goto 4, 3) := by decide +kernel
theorem dX11_limit_19 : decode cX11_limit 19 = .ok (.iconst (-1), 1) := by decide +kernel
theorem dX11_limit_20 : decode cX11_limit 20 = .ok (.ireturn, 1) := by decide +kernel
theorem dX11_dead_0 : decode cX11_dead 0 = .ok (.iload_n 1, 1) := by decide +kernel
theorem dX11_dead_1 : decode cX11_dead 1 = .ok (.invokestatic 158, 3) := by decide +kernel
theorem dX11_dead_4 : decode cX11_dead 4 = .ok (.ifCond .eq 15, 3) := by decide +kernel
theorem dX11_dead_7 : decode cX11_dead 7 = .ok (.aload_n 0, 1) := by decide +kernel
theorem dX11_dead_8 : decode cX11_dead 8 = .ok (.getfield 10, 3) := by decide +kernel
theorem dX11_dead_11 : decode cX11_dead 11 = .ok (.getfield 165, 3) := by decide +kernel
theorem dX11_dead_14 : decode cX11_dead 14 = .ok (.iload_n 1, 1) := by decide +kernel
theorem dX11_dead_15 : decode cX11_dead 15 = .ok (.iaload, 1) := by decide +kernel
theorem dX11_dead_16 : decode cX11_dead 16 = .ok (.goto 4, 3) := by decide +kernel
theorem dX11_dead_19 : decode cX11_dead 19 = .ok (.iconst (-1), 1) := by decide +kernel
theorem dX11_dead_20 : decode cX11_dead 20 = .ok (.ireturn, 1) := by decide +kernel
theorem dX11_contract_0 : decode cX11_contract 0 = .ok (.aload_n 0, 1) := by decide +kernel
theorem dX11_contract_1 : decode cX11_contract 1 = .ok (.getfield 10, 3) := by decide +kernel
theorem dX11_contract_4 : decode cX11_contract 4 = .ok (.iload_n 1, 1) := by decide +kernel
theorem dX11_contract_5 : decode cX11_contract 5 = .ok (.invokevirtual 168, 3) := by decide +kernel
theorem dX11_contract_8 : decode cX11_contract 8 = .ok (.astore_n 3, 1) := by decide +kernel
theorem dX11_contract_9 : decode cX11_contract 9 = .ok (.aload_n 3, 1) := by decide +kernel
theorem dX11_contract_10 : decode cX11_contract 10 = .ok (.ifnonnull 5, 3) := by decide +kernel
theorem dX11_contract_13 : decode cX11_contract 13 = .ok (.iconst (-1), 1) := by decide +kernel
theorem dX11_contract_14 : decode cX11_contract 14 = .ok (.ireturn, 1) := by decide +kernel
theorem dX11_contract_15 : decode cX11_contract 15 = .ok (.iload_n 2, 1) := by decide +kernel
theorem dX11_contract_16 : decode cX11_contract 16 = .ok (.tableswitch 122 0 7 #[48, 53, 58, 63, 68, 73, 85, 108], 48) := by decide +kernel
theorem dX11_contract_64 : decode cX11_contract 64 = .ok (.aload_n 3, 1) := by decide +kernel
theorem dX11_contract_65 : decode cX11_contract 65 = .ok (.getfield 172, 3) := by decide +kernel
theorem dX11_contract_68 : decode cX11_contract 68 = .ok (.ireturn, 1) := by decide +kernel
theorem dX11_contract_69 : decode cX11_contract 69 = .ok (.aload_n 3, 1) := by decide +kernel
theorem dX11_contract_70 : decode cX11_contract 70 = .ok (.getfield 177, 3) := by decide +kernel
theorem dX11_contract_73 : decode cX11_contract 73 = .ok (.ireturn, 1) := by decide +kernel
theorem dX11_contract_74 : decode cX11_contract 74 = .ok (.aload_n 3, 1) := by decide +kernel
theorem dX11_contract_75 : decode cX11_contract 75 = .ok (.getfield 180, 3) := by decide +kernel
theorem dX11_contract_78 : decode cX11_contract 78 = .ok (.ireturn, 1) := by decide +kernel
theorem dX11_contract_79 : decode cX11_contract 79 = .ok (.aload_n 3, 1) := by decide +kernel
theorem dX11_contract_80 : decode cX11_contract 80 = .ok (.getfield 183, 3) := by decide +kernel
theorem dX11_contract_83 : decode cX11_contract 83 = .ok (.ireturn, 1) := by decide +kernel
theorem dX11_contract_84 : decode cX11_contract 84 = .ok (.aload_n 3, 1) := by decide +kernel
theorem dX11_contract_85 : decode cX11_contract 85 = .ok (.getfield 186, 3) := by decide +kernel
theorem dX11_contract_88 : decode cX11_contract 88 = .ok (.ireturn, 1) := by decide +kernel
theorem dX11_contract_89 : decode cX11_contract 89 = .ok (.aload_n 3, 1) := by decide +kernel
theorem dX11_contract_90 : decode cX11_contract 90 = .ok (.aload_n 0, 1) := by decide +kernel
theorem dX11_contract_91 : decode cX11_contract 91 = .ok (.getfield 10, 3) := by decide +kernel
theorem dX11_contract_94 : decode cX11_contract 94 = .ok (.getfield 135, 3) := by decide +kernel
theorem dX11_contract_97 : decode cX11_contract 97 = .ok (.invokevirtual 189, 3) := by decide +kernel
theorem dX11_contract_100 : decode cX11_contract 100 = .ok (.ireturn, 1) := by decide +kernel
theorem dX11_contract_101 : decode cX11_contract 101 = .ok (.aload_n 3, 1) := by decide +kernel
theorem dX11_contract_102 : decode cX11_contract 102 = .ok (.invokevirtual 192, 3) := by decide +kernel
theorem dX11_contract_105 : decode cX11_contract 105 = .ok (.ifCond .eq 17, 3) := by decide +kernel
theorem dX11_contract_108 : decode cX11_contract 108 = .ok (.aload_n 3, 1) := by decide +kernel
theorem dX11_contract_109 : decode cX11_contract 109 = .ok (.aload_n 0, 1) := by decide +kernel
theorem dX11_contract_110 : decode cX11_contract 110 = .ok (.getfield 10, 3) := by decide +kernel
theorem dX11_contract_113 : decode cX11_contract 113 = .ok (.getfield 135, 3) := by decide +kernel
theorem dX11_contract_116 : decode cX11_contract 116 = .ok (.invokevirtual 196, 3) := by decide +kernel
theorem dX11_contract_119 : decode cX11_contract 119 = .ok (.goto 4, 3) := by decide +kernel
theorem dX11_contract_122 : decode cX11_contract 122 = .ok (.iconst 0, 1) := by decide +kernel
theorem dX11_contract_123 : decode cX11_contract 123 = .ok (.ireturn, 1) := by decide +kernel
theorem dX11_contract_124 : decode cX11_contract 124 = .ok (.aload_n 0, 1) := by decide +kernel
theorem dX11_contract_125 : decode cX11_contract 125 = .ok (.iload_n 1, 1) := by decide +kernel
theorem dX11_contract_126 : decode cX11_contract 126 = .ok (.invokevirtual 199, 3) := by decide +kernel
theorem dX11_contract_129 : decode cX11_contract 129 = .ok (.ifCond .eq 7, 3) := by decide +kernel
theorem dX11_contract_132 : decode cX11_contract 132 = .ok (.iconst 1, 1) := by decide +kernel
theorem dX11_contract_133 : decode cX11_contract 133 = .ok (.goto 4, 3) := by decide +kernel
theorem dX11_contract_136 : decode cX11_contract 136 = .ok (.iconst 0, 1) := by decide +kernel
theorem dX11_contract_137 : decode cX11_contract 137 = .ok (.ireturn, 1) := by decide +kernel
theorem dX11_contract_138 : decode cX11_contract 138 = .ok (.iconst (-1), 1) := by decide +kernel
theorem dX11_contract_139 : decode cX11_contract 139 = .ok (.ireturn, 1) := by decide +kernel
theorem dX11_pay_0 : decode cX11_pay 0 = .ok (.aload_n 0, 1) := by decide +kernel
theorem dX11_pay_1 : decode cX11_pay 1 = .ok (.getfield 10, 3) := by decide +kernel
theorem dX11_pay_4 : decode cX11_pay 4 = .ok (.iload_n 1, 1) := by decide +kernel
theorem dX11_pay_5 : decode cX11_pay 5 = .ok (.invokevirtual 168, 3) := by decide +kernel
theorem dX11_pay_8 : decode cX11_pay 8 = .ok (.astore 4, 2) := by decide +kernel
theorem dX11_pay_10 : decode cX11_pay 10 = .ok (.aload 4, 2) := by decide +kernel
theorem dX11_pay_12 : decode cX11_pay 12 = .ok (.ifnull 10, 3) := by decide +kernel
theorem dX11_pay_15 : decode cX11_pay 15 = .ok (.iload_n 2, 1) := by decide +kernel
theorem dX11_pay_16 : decode cX11_pay 16 = .ok (.invokestatic 158, 3) := by decide +kernel
theorem dX11_pay_19 : decode cX11_pay 19 = .ok (.ifCond .ne 5, 3) := by decide +kernel
theorem dX11_pay_22 : decode cX11_pay 22 = .ok (.iconst (-1), 1) := by decide +kernel
theorem dX11_pay_23 : decode cX11_pay 23 = .ok (.ireturn, 1) := by decide +kernel
theorem dX11_pay_24 : decode cX11_pay 24 = .ok (.iload_n 3, 1) := by decide +kernel
theorem dX11_pay_25 : decode cX11_pay 25 = .ok (.tableswitch 59 0 3 #[31, 38, 45, 52], 31) := by decide +kernel
theorem dX11_pay_56 : decode cX11_pay 56 = .ok (.aload 4, 2) := by decide +kernel
theorem dX11_pay_58 : decode cX11_pay 58 = .ok (.iload_n 2, 1) := by decide +kernel
theorem dX11_pay_59 : decode cX11_pay 59 = .ok (.invokevirtual 202, 3) := by decide +kernel
theorem dX11_pay_62 : decode cX11_pay 62 = .ok (.ireturn, 1) := by decide +kernel
theorem dX11_pay_63 : decode cX11_pay 63 = .ok (.aload 4, 2) := by decide +kernel
theorem dX11_pay_65 : decode cX11_pay 65 = .ok (.iload_n 2, 1) := by decide +kernel
theorem dX11_pay_66 : decode cX11_pay 66 = .ok (.invokevirtual 205, 3) := by decide +kernel
theorem dX11_pay_69 : decode cX11_pay 69 = .ok (.ireturn, 1) := by decide +kernel
theorem dX11_pay_70 : decode cX11_pay 70 = .ok (.aload 4, 2) := by decide +kernel
theorem dX11_pay_72 : decode cX11_pay 72 = .ok (.iload_n 2, 1) := by decide +kernel
theorem dX11_pay_73 : decode cX11_pay 73 = .ok (.invokevirtual 208, 3) := by decide +kernel
theorem dX11_pay_76 : decode cX11_pay 76 = .ok (.ireturn, 1) := by decide +kernel
theorem dX11_pay_77 : decode cX11_pay 77 = .ok (.aload 4, 2) := by decide +kernel
theorem dX11_pay_79 : decode cX11_pay 79 = .ok (.iload_n 2, 1) := by decide +kernel
theorem dX11_pay_80 : decode cX11_pay 80 = .ok (.invokevirtual 196, 3) := by decide +kernel
theorem dX11_pay_83 : decode cX11_pay 83 = .ok (.ireturn, 1) := by decide +kernel
theorem dX11_pay_84 : decode cX11_pay 84 = .ok (.iconst (-1), 1) := by decide +kernel
theorem dX11_pay_85 : decode cX11_pay 85 = .ok (.ireturn, 1) := by decide +kernel
theorem dX11_now_0 : decode cX11_now 0 = .ok (.aload_n 0, 1) := by decide +kernel
theorem dX11_now_1 : decode cX11_now 1 = .ok (.getfield 56, 3) := by decide +kernel
theorem dX11_now_4 : decode cX11_now 4 = .ok (.aload_n 0, 1) := by decide +kernel
theorem dX11_now_5 : decode cX11_now 5 = .ok (.getfield 10, 3) := by decide +kernel
theorem dX11_now_8 : decode cX11_now 8 = .ok (.invokevirtual 211, 3) := by decide +kernel
theorem dX11_now_11 : decode cX11_now 11 = .ok (.iload_n 1, 1) := by decide +kernel
theorem dX11_now_12 : decode cX11_now 12 = .ok (.lookupswitch 59 #[(0, 28), (1, 47)], 28) := by decide +kernel
theorem dX11_now_40 : decode cX11_now 40 = .ok (.aload_n 0, 1) := by decide +kernel
theorem dX11_now_41 : decode cX11_now 41 = .ok (.getfield 56, 3) := by decide +kernel
theorem dX11_now_44 : decode cX11_now 44 = .ok (.aload_n 0, 1) := by decide +kernel
theorem dX11_now_45 : decode cX11_now 45 = .ok (.getfield 10, 3) := by decide +kernel
theorem dX11_now_48 : decode cX11_now 48 = .ok (.aload_n 0, 1) := by decide +kernel
theorem dX11_now_49 : decode cX11_now 49 = .ok (.getfield 10, 3) := by decide +kernel
theorem dX11_now_52 : decode cX11_now 52 = .ok (.getfield 138, 3) := by decide +kernel
theorem dX11_now_55 : decode cX11_now 55 = .ok (.invokevirtual 214, 3) := by decide +kernel
theorem dX11_now_58 : decode cX11_now 58 = .ok (.ireturn, 1) := by decide +kernel
theorem dX11_now_59 : decode cX11_now 59 = .ok (.aload_n 0, 1) := by decide +kernel
theorem dX11_now_60 : decode cX11_now 60 = .ok (.getfield 56, 3) := by decide +kernel
theorem dX11_now_63 : decode cX11_now 63 = .ok (.aload_n 0, 1) := by decide +kernel
theorem dX11_now_64 : decode cX11_now 64 = .ok (.getfield 10, 3) := by decide +kernel
theorem dX11_now_67 : decode cX11_now 67 = .ok (.invokevirtual 218, 3) := by decide +kernel
theorem dX11_now_70 : decode cX11_now 70 = .ok (.ireturn, 1) := by decide +kernel
theorem dX11_now_71 : decode cX11_now 71 = .ok (.ldc 221, 2) := by decide +kernel
theorem dX11_now_73 : decode cX11_now 73 = .ok (.ireturn, 1) := by decide +kernel
theorem dX11_would_0 : decode cX11_would 0 = .ok (.aload_n 0, 1) := by decide +kernel
theorem dX11_would_1 : decode cX11_would 1 = .ok (.getfield 10, 3) := by decide +kernel
theorem dX11_would_4 : decode cX11_would 4 = .ok (.iload_n 1, 1) := by decide +kernel
theorem dX11_would_5 : decode cX11_would 5 = .ok (.invokevirtual 222, 3) := by decide +kernel
theorem dX11_would_8 : decode cX11_would 8 = .ok (.astore_n 3, 1) := by decide +kernel
theorem dX11_would_9 : decode cX11_would 9 = .ok (.aload_n 3, 1) := by decide +kernel
theorem dX11_would_10 : decode cX11_would 10 = .ok (.ifnonnull 6, 3) := by decide +kernel
theorem dX11_would_13 : decode cX11_would 13 = .ok (.ldc 221, 2) := by decide +kernel
theorem dX11_would_15 : decode cX11_would 15 = .ok (.ireturn, 1) := by decide +kernel
theorem dX11_would_16 : decode cX11_would 16 = .ok (.iload_n 2, 1) := by decide +kernel
theorem dX11_would_17 : decode cX11_would 17 = .ok (.tableswitch 103 0 3 #[31, 47, 63, 72], 31) := by decide +kernel
theorem dX11_would_48 : decode cX11_would 48 = .ok (.aload_n 0, 1) := by decide +kernel
theorem dX11_would_49 : decode cX11_would 49 = .ok (.getfield 10, 3) := by decide +kernel
theorem dX11_would_52 : decode cX11_would 52 = .ok (.aload_n 3, 1) := by decide +kernel
theorem dX11_would_53 : decode cX11_would 53 = .ok (.aload_n 0, 1) := by decide +kernel
theorem dX11_would_54 : decode cX11_would 54 = .ok (.getfield 10, 3) := by decide +kernel
theorem dX11_would_57 : decode cX11_would 57 = .ok (.getfield 138, 3) := by decide +kernel
theorem dX11_would_60 : decode cX11_would 60 = .ok (.invokevirtual 225, 3) := by decide +kernel
theorem dX11_would_63 : decode cX11_would 63 = .ok (.ireturn, 1) := by decide +kernel
theorem dX11_would_64 : decode cX11_would 64 = .ok (.aload_n 0, 1) := by decide +kernel
theorem dX11_would_65 : decode cX11_would 65 = .ok (.getfield 10, 3) := by decide +kernel
theorem dX11_would_68 : decode cX11_would 68 = .ok (.aload_n 3, 1) := by decide +kernel
theorem dX11_would_69 : decode cX11_would 69 = .ok (.aload_n 0, 1) := by decide +kernel
theorem dX11_would_70 : decode cX11_would 70 = .ok (.getfield 10, 3) := by decide +kernel
theorem dX11_would_73 : decode cX11_would 73 = .ok (.getfield 138, 3) := by decide +kernel
theorem dX11_would_76 : decode cX11_would 76 = .ok (.invokevirtual 229, 3) := by decide +kernel
theorem dX11_would_79 : decode cX11_would 79 = .ok (.ireturn, 1) := by decide +kernel
theorem dX11_would_80 : decode cX11_would 80 = .ok (.aload_n 0, 1) := by decide +kernel
theorem dX11_would_81 : decode cX11_would 81 = .ok (.getfield 10, 3) := by decide +kernel
theorem dX11_would_84 : decode cX11_would 84 = .ok (.aload_n 3, 1) := by decide +kernel
theorem dX11_would_85 : decode cX11_would 85 = .ok (.invokevirtual 232, 3) := by decide +kernel
theorem dX11_would_88 : decode cX11_would 88 = .ok (.ireturn, 1) := by decide +kernel
theorem dX11_would_89 : decode cX11_would 89 = .ok (.aload_n 0, 1) := by decide +kernel
theorem dX11_would_90 : decode cX11_would 90 = .ok (.getfield 56, 3) := by decide +kernel
theorem dX11_would_93 : decode cX11_would 93 = .ok (.aload_n 0, 1) := by decide +kernel
theorem dX11_would_94 : decode cX11_would 94 = .ok (.getfield 10, 3) := by decide +kernel
theorem dX11_would_97 : decode cX11_would 97 = .ok (.invokevirtual 211, 3) := by decide +kernel
theorem dX11_would_100 : decode cX11_would 100 = .ok (.aload_n 0, 1) := by decide +kernel
theorem dX11_would_101 : decode cX11_would 101 = .ok (.getfield 56, 3) := by decide +kernel
theorem dX11_would_104 : decode cX11_would 104 = .ok (.aload_n 0, 1) := by decide +kernel
theorem dX11_would_105 : decode cX11_would 105 = .ok (.getfield 10, 3) := by decide +kernel
theorem dX11_would_108 : decode cX11_would 108 = .ok (.iload_n 1, 1) := by decide +kernel
theorem dX11_would_109 : decode cX11_would 109 = .ok (.aload_n 0, 1) := by decide +kernel
theorem dX11_would_110 : decode cX11_would 110 = .ok (.getfield 10, 3) := by decide +kernel
theorem dX11_would_113 : decode cX11_would 113 = .ok (.getfield 138, 3) := by decide +kernel
theorem dX11_would_116 : decode cX11_would 116 = .ok (.invokevirtual 236, 3) := by decide +kernel
theorem dX11_would_119 : decode cX11_would 119 = .ok (.ireturn, 1) := by decide +kernel
theorem dX11_would_120 : decode cX11_would 120 = .ok (.ldc 221, 2) := by decide +kernel
theorem dX11_would_122 : decode cX11_would 122 = .ok (.ireturn, 1) := by decide +kernel
theorem dX11_cut_0 : decode cX11_cut 0 = .ok (.aload_n 0, 1) := by decide +kernel
theorem dX11_cut_1 : decode cX11_cut 1 = .ok (.iload_n 1, 1) := by decide +kernel
theorem dX11_cut_2 : decode cX11_cut 2 = .ok (.iconst 0, 1) := by decide +kernel
theorem dX11_cut_3 : decode cX11_cut 3 = .ok (.invokevirtual 240, 3) := by decide +kernel
theorem dX11_cut_6 : decode cX11_cut 6 = .ok (.ireturn, 1) := by decide +kernel
theorem dX11_trade_0 : decode cX11_trade 0 = .ok (.aload_n 0, 1) := by decide +kernel
theorem dX11_trade_1 : decode cX11_trade 1 = .ok (.iload_n 1, 1) := by decide +kernel
theorem dX11_trade_2 : decode cX11_trade 2 = .ok (.iconst 1, 1) := by decide +kernel
theorem dX11_trade_3 : decode cX11_trade 3 = .ok (.invokevirtual 240, 3) := by decide +kernel
theorem dX11_trade_6 : decode cX11_trade 6 = .ok (.ireturn, 1) := by decide +kernel
theorem dX11_sign_0 : decode cX11_sign 0 = .ok (.aload_n 0, 1) := by decide +kernel
theorem dX11_sign_1 : decode cX11_sign 1 = .ok (.aload_n 0, 1) := by decide +kernel
theorem dX11_sign_2 : decode cX11_sign 2 = .ok (.getfield 10, 3) := by decide +kernel
theorem dX11_sign_5 : decode cX11_sign 5 = .ok (.iload_n 1, 1) := by decide +kernel
theorem dX11_sign_6 : decode cX11_sign 6 = .ok (.invokevirtual 244, 3) := by decide +kernel
theorem dX11_sign_9 : decode cX11_sign 9 = .ok (.putfield 74, 3) := by decide +kernel
theorem dX11_sign_12 : decode cX11_sign 12 = .ok (.aload_n 0, 1) := by decide +kernel
theorem dX11_sign_13 : decode cX11_sign 13 = .ok (.getfield 74, 3) := by decide +kernel
theorem dX11_sign_16 : decode cX11_sign 16 = .ok (.ifCond .eq 5, 3) := by decide +kernel
theorem dX11_sign_19 : decode cX11_sign 19 = .ok (.iconst (-1), 1) := by decide +kernel
theorem dX11_sign_20 : decode cX11_sign 20 = .ok (.ireturn, 1) := by decide +kernel
theorem dX11_sign_21 : decode cX11_sign 21 = .ok (.aload_n 0, 1) := by decide +kernel
theorem dX11_sign_22 : decode cX11_sign 22 = .ok (.getfield 26, 3) := by decide +kernel
theorem dX11_sign_25 : decode cX11_sign 25 = .ok (.aload_n 0, 1) := by decide +kernel
theorem dX11_sign_26 : decode cX11_sign 26 = .ok (.getfield 10, 3) := by decide +kernel
theorem dX11_sign_29 : decode cX11_sign 29 = .ok (.invokevirtual 247, 3) := by decide +kernel
theorem dX11_sign_32 : decode cX11_sign 32 = .ok (.aload_n 0, 1) := by decide +kernel
theorem dX11_sign_33 : decode cX11_sign 33 = .ok (.getfield 10, 3) := by decide +kernel
theorem dX11_sign_36 : decode cX11_sign 36 = .ok (.iload_n 1, 1) := by decide +kernel
theorem dX11_sign_37 : decode cX11_sign 37 = .ok (.invokevirtual 250, 3) := by decide +kernel
theorem dX11_sign_40 : decode cX11_sign 40 = .ok (.ireturn, 1) := by decide +kernel
theorem dX11_promise_0 : decode cX11_promise 0 = .ok (.aload_n 0, 1) := by decide +kernel
theorem dX11_promise_1 : decode cX11_promise 1 = .ok (.getfield 10, 3) := by decide +kernel
theorem dX11_promise_4 : decode cX11_promise 4 = .ok (.iload_n 1, 1) := by decide +kernel
theorem dX11_promise_5 : decode cX11_promise 5 = .ok (.invokevirtual 168, 3) := by decide +kernel
theorem dX11_promise_8 : decode cX11_promise 8 = .ok (.astore 5, 2) := by decide +kernel
theorem dX11_promise_10 : decode cX11_promise 10 = .ok (.aload 5, 2) := by decide +kernel
theorem dX11_promise_12 : decode cX11_promise 12 = .ok (.ifnull 29, 3) := by decide +kernel
theorem dX11_promise_15 : decode cX11_promise 15 = .ok (.aload 5, 2) := by decide +kernel
theorem dX11_promise_17 : decode cX11_promise 17 = .ok (.invokevirtual 192, 3) := by decide +kernel
theorem dX11_promise_20 : decode cX11_promise 20 = .ok (.ifCond .eq 21, 3) := by decide +kernel
theorem dX11_promise_23 : decode cX11_promise 23 = .ok (.iload_n 2, 1) := by decide +kernel
theorem dX11_promise_24 : decode cX11_promise 24 = .ok (.invokestatic 158, 3) := by decide +kernel
theorem dX11_promise_27 : decode cX11_promise 27 = .ok (.ifCond .eq 14, 3) := by decide +kernel
theorem dX11_promise_30 : decode cX11_promise 30 = .ok (.iload_n 2, 1) := by decide +kernel
theorem dX11_promise_31 : decode cX11_promise 31 = .ok (.aload_n 0, 1) := by decide +kernel
theorem dX11_promise_32 : decode cX11_promise 32 = .ok (.getfield 10, 3) := by decide +kernel
theorem dX11_promise_35 : decode cX11_promise 35 = .ok (.getfield 135, 3) := by decide +kernel
theorem dX11_promise_38 : decode cX11_promise 38 = .ok (.if_icmp .ge 5, 3) := by decide +kernel
theorem dX11_promise_41 : decode cX11_promise 41 = .ok (.iconst (-1), 1) := by decide +kernel
theorem dX11_promise_42 : decode cX11_promise 42 = .ok (.ireturn, 1) := by decide +kernel
theorem dX11_promise_43 : decode cX11_promise 43 = .ok (.iload_n 3, 1) := by decide +kernel
theorem dX11_promise_44 : decode cX11_promise 44 = .ok (.iconst 1, 1) := by decide +kernel
theorem dX11_promise_45 : decode cX11_promise 45 = .ok (.if_icmp .lt 22, 3) := by decide +kernel
theorem dX11_promise_48 : decode cX11_promise 48 = .ok (.iload_n 3, 1) := by decide +kernel
theorem dX11_promise_49 : decode cX11_promise 49 = .ok (.ldc 253, 2) := by decide +kernel
theorem dX11_promise_51 : decode cX11_promise 51 = .ok (.if_icmp .gt 16, 3) := by decide +kernel
theorem dX11_promise_54 : decode cX11_promise 54 = .ok (.aload_n 0, 1) := by decide +kernel
theorem dX11_promise_55 : decode cX11_promise 55 = .ok (.getfield 10, 3) := by decide +kernel
theorem dX11_promise_58 : decode cX11_promise 58 = .ok (.getfield 254, 3) := by decide +kernel
theorem dX11_promise_61 : decode cX11_promise 61 = .ok (.invokevirtual 258, 3) := by decide +kernel
theorem dX11_promise_64 : decode cX11_promise 64 = .ok (.ifCond .eq 5, 3) := by decide +kernel
theorem dX11_promise_67 : decode cX11_promise 67 = .ok (.iconst (-1), 1) := by decide +kernel
theorem dX11_promise_68 : decode cX11_promise 68 = .ok (.ireturn, 1) := by decide +kernel
theorem dX11_promise_69 : decode cX11_promise 69 = .ok (.aload_n 0, 1) := by decide +kernel
theorem dX11_promise_70 : decode cX11_promise 70 = .ok (.getfield 26, 3) := by decide +kernel
theorem dX11_promise_73 : decode cX11_promise 73 = .ok (.aload_n 0, 1) := by decide +kernel
theorem dX11_promise_74 : decode cX11_promise 74 = .ok (.getfield 10, 3) := by decide +kernel
theorem dX11_promise_77 : decode cX11_promise 77 = .ok (.invokevirtual 247, 3) := by decide +kernel
theorem dX11_promise_80 : decode cX11_promise 80 = .ok (.aload_n 0, 1) := by decide +kernel
theorem dX11_promise_81 : decode cX11_promise 81 = .ok (.getfield 10, 3) := by decide +kernel
theorem dX11_promise_84 : decode cX11_promise 84 = .ok (.getfield 254, 3) := by decide +kernel
theorem dX11_promise_87 : decode cX11_promise 87 = .ok (.iload_n 1, 1) := by decide +kernel
theorem dX11_promise_88 : decode cX11_promise 88 = .ok (.iload_n 2, 1) := by decide +kernel
theorem dX11_promise_89 : decode cX11_promise 89 = .ok (.iload_n 3, 1) := by decide +kernel
theorem dX11_promise_90 : decode cX11_promise 90 = .ok (.iload 4, 2) := by decide +kernel
theorem dX11_promise_92 : decode cX11_promise 92 = .ok (.invokevirtual 263, 3) := by decide +kernel
theorem dX11_promise_95 : decode cX11_promise 95 = .ok (.ireturn, 1) := by decide +kernel
theorem dX11_earn_0 : decode cX11_earn 0 = .ok (.aload_n 0, 1) := by decide +kernel
theorem dX11_earn_1 : decode cX11_earn 1 = .ok (.getfield 10, 3) := by decide +kernel
theorem dX11_earn_4 : decode cX11_earn 4 = .ok (.getfield 254, 3) := by decide +kernel
theorem dX11_earn_7 : decode cX11_earn 7 = .ok (.astore_n 2, 1) := by decide +kernel
theorem dX11_earn_8 : decode cX11_earn 8 = .ok (.aload_n 2, 1) := by decide +kernel
theorem dX11_earn_9 : decode cX11_earn 9 = .ok (.iload_n 1, 1) := by decide +kernel
theorem dX11_earn_10 : decode cX11_earn 10 = .ok (.invokevirtual 267, 3) := by decide +kernel
theorem dX11_earn_13 : decode cX11_earn 13 = .ok (.ifCond .eq 28, 3) := by decide +kernel
theorem dX11_earn_16 : decode cX11_earn 16 = .ok (.aload_n 2, 1) := by decide +kernel
theorem dX11_earn_17 : decode cX11_earn 17 = .ok (.getfield 270, 3) := by decide +kernel
theorem dX11_earn_20 : decode cX11_earn 20 = .ok (.iload_n 1, 1) := by decide +kernel
theorem dX11_earn_21 : decode cX11_earn 21 = .ok (.baload, 1) := by decide +kernel
theorem dX11_earn_22 : decode cX11_earn 22 = .ok (.ifCond .ne 19, 3) := by decide +kernel
theorem dX11_earn_25 : decode cX11_earn 25 = .ok (.aload_n 2, 1) := by decide +kernel
theorem dX11_earn_26 : decode cX11_earn 26 = .ok (.getfield 274, 3) := by decide +kernel
theorem dX11_earn_29 : decode cX11_earn 29 = .ok (.iload_n 1, 1) := by decide +kernel
theorem dX11_earn_30 : decode cX11_earn 30 = .ok (.iaload, 1) := by decide +kernel
theorem dX11_earn_31 : decode cX11_earn 31 = .ok (.aload_n 0, 1) := by decide +kernel
theorem dX11_earn_32 : decode cX11_earn 32 = .ok (.getfield 10, 3) := by decide +kernel
theorem dX11_earn_35 : decode cX11_earn 35 = .ok (.getfield 135, 3) := by decide +kernel
theorem dX11_earn_38 : decode cX11_earn 38 = .ok (.if_icmp .eq 5, 3) := by decide +kernel
theorem dX11_earn_41 : decode cX11_earn 41 = .ok (.iconst (-1), 1) := by decide +kernel
theorem dX11_earn_42 : decode cX11_earn 42 = .ok (.ireturn, 1) := by decide +kernel
theorem dX11_earn_43 : decode cX11_earn 43 = .ok (.aload_n 0, 1) := by decide +kernel
theorem dX11_earn_44 : decode cX11_earn 44 = .ok (.getfield 10, 3) := by decide +kernel
theorem dX11_earn_47 : decode cX11_earn 47 = .ok (.aload_n 2, 1) := by decide +kernel
theorem dX11_earn_48 : decode cX11_earn 48 = .ok (.getfield 276, 3) := by decide +kernel
theorem dX11_earn_51 : decode cX11_earn 51 = .ok (.iload_n 1, 1) := by decide +kernel
theorem dX11_earn_52 : decode cX11_earn 52 = .ok (.iaload, 1) := by decide +kernel
theorem dX11_earn_53 : decode cX11_earn 53 = .ok (.invokevirtual 168, 3) := by decide +kernel
theorem dX11_earn_56 : decode cX11_earn 56 = .ok (.astore_n 3, 1) := by decide +kernel
theorem dX11_earn_57 : decode cX11_earn 57 = .ok (.aload_n 3, 1) := by decide +kernel
theorem dX11_earn_58 : decode cX11_earn 58 = .ok (.ifnull 10, 3) := by decide +kernel
theorem dX11_earn_61 : decode cX11_earn 61 = .ok (.aload_n 3, 1) := by decide +kernel
theorem dX11_earn_62 : decode cX11_earn 62 = .ok (.invokevirtual 192, 3) := by decide +kernel
theorem dX11_earn_65 : decode cX11_earn 65 = .ok (.ifCond .ne 5, 3) := by decide +kernel
theorem dX11_earn_68 : decode cX11_earn 68 = .ok (.iconst (-1), 1) := by decide +kernel
theorem dX11_earn_69 : decode cX11_earn 69 = .ok (.ireturn, 1) := by decide +kernel
theorem dX11_earn_70 : decode cX11_earn 70 = .ok (.aload_n 0, 1) := by decide +kernel
theorem dX11_earn_71 : decode cX11_earn 71 = .ok (.getfield 26, 3) := by decide +kernel
theorem dX11_earn_74 : decode cX11_earn 74 = .ok (.aload_n 0, 1) := by decide +kernel
theorem dX11_earn_75 : decode cX11_earn 75 = .ok (.getfield 10, 3) := by decide +kernel
theorem dX11_earn_78 : decode cX11_earn 78 = .ok (.invokevirtual 247, 3) := by decide +kernel
theorem dX11_earn_81 : decode cX11_earn 81 = .ok (.aload_n 2, 1) := by decide +kernel
theorem dX11_earn_82 : decode cX11_earn 82 = .ok (.getfield 270, 3) := by decide +kernel
theorem dX11_earn_85 : decode cX11_earn 85 = .ok (.iload_n 1, 1) := by decide +kernel
theorem dX11_earn_86 : decode cX11_earn 86 = .ok (.iconst 1, 1) := by decide +kernel
theorem dX11_earn_87 : decode cX11_earn 87 = .ok (.bastore, 1) := by decide +kernel
theorem dX11_earn_88 : decode cX11_earn 88 = .ok (.aload_n 2, 1) := by decide +kernel
theorem dX11_earn_89 : decode cX11_earn 89 = .ok (.getfield 279, 3) := by decide +kernel
theorem dX11_earn_92 : decode cX11_earn 92 = .ok (.iload_n 1, 1) := by decide +kernel
theorem dX11_earn_93 : decode cX11_earn 93 = .ok (.iaload, 1) := by decide +kernel
theorem dX11_earn_94 : decode cX11_earn 94 = .ok (.ireturn, 1) := by decide +kernel
theorem dX11_turn_0 : decode cX11_turn 0 = .ok (.aload_n 0, 1) := by decide +kernel
theorem dX11_turn_1 : decode cX11_turn 1 = .ok (.aload_n 0, 1) := by decide +kernel
theorem dX11_turn_2 : decode cX11_turn 2 = .ok (.getfield 10, 3) := by decide +kernel
theorem dX11_turn_5 : decode cX11_turn 5 = .ok (.iload_n 1, 1) := by decide +kernel
theorem dX11_turn_6 : decode cX11_turn 6 = .ok (.iload_n 2, 1) := by decide +kernel
theorem dX11_turn_7 : decode cX11_turn 7 = .ok (.invokevirtual 282, 3) := by decide +kernel
theorem dX11_turn_10 : decode cX11_turn 10 = .ok (.putfield 74, 3) := by decide +kernel
theorem dX11_turn_13 : decode cX11_turn 13 = .ok (.aload_n 0, 1) := by decide +kernel
theorem dX11_turn_14 : decode cX11_turn 14 = .ok (.getfield 10, 3) := by decide +kernel
theorem dX11_turn_17 : decode cX11_turn 17 = .ok (.iload_n 1, 1) := by decide +kernel
theorem dX11_turn_18 : decode cX11_turn 18 = .ok (.invokevirtual 168, 3) := by decide +kernel
theorem dX11_turn_21 : decode cX11_turn 21 = .ok (.astore_n 3, 1) := by decide +kernel
theorem dX11_turn_22 : decode cX11_turn 22 = .ok (.aload_n 0, 1) := by decide +kernel
theorem dX11_turn_23 : decode cX11_turn 23 = .ok (.getfield 74, 3) := by decide +kernel
theorem dX11_turn_26 : decode cX11_turn 26 = .ok (.ifCond .ne 7, 3) := by decide +kernel
theorem dX11_turn_29 : decode cX11_turn 29 = .ok (.aload_n 3, 1) := by decide +kernel
theorem dX11_turn_30 : decode cX11_turn 30 = .ok (.ifnonnull 5, 3) := by decide +kernel
theorem dX11_turn_33 : decode cX11_turn 33 = .ok (.iconst (-1), 1) := by decide +kernel
theorem dX11_turn_34 : decode cX11_turn 34 = .ok (.ireturn, 1) := by decide +kernel
theorem dX11_turn_35 : decode cX11_turn 35 = .ok (.aload_n 0, 1) := by decide +kernel
theorem dX11_turn_36 : decode cX11_turn 36 = .ok (.getfield 26, 3) := by decide +kernel
theorem dX11_turn_39 : decode cX11_turn 39 = .ok (.aload_n 0, 1) := by decide +kernel
theorem dX11_turn_40 : decode cX11_turn 40 = .ok (.getfield 10, 3) := by decide +kernel
theorem dX11_turn_43 : decode cX11_turn 43 = .ok (.invokevirtual 247, 3) := by decide +kernel
theorem dX11_turn_46 : decode cX11_turn 46 = .ok (.aload_n 3, 1) := by decide +kernel
theorem dX11_turn_47 : decode cX11_turn 47 = .ok (.aload_n 0, 1) := by decide +kernel
theorem dX11_turn_48 : decode cX11_turn 48 = .ok (.getfield 10, 3) := by decide +kernel
theorem dX11_turn_51 : decode cX11_turn 51 = .ok (.getfield 135, 3) := by decide +kernel
theorem dX11_turn_54 : decode cX11_turn 54 = .ok (.iload_n 2, 1) := by decide +kernel
theorem dX11_turn_55 : decode cX11_turn 55 = .ok (.invokevirtual 286, 3) := by decide +kernel
theorem dX11_turn_58 : decode cX11_turn 58 = .ok (.aload_n 3, 1) := by decide +kernel
theorem dX11_turn_59 : decode cX11_turn 59 = .ok (.aload_n 0, 1) := by decide +kernel
theorem dX11_turn_60 : decode cX11_turn 60 = .ok (.getfield 10, 3) := by decide +kernel
theorem dX11_turn_63 : decode cX11_turn 63 = .ok (.getfield 135, 3) := by decide +kernel
theorem dX11_turn_66 : decode cX11_turn 66 = .ok (.iload_n 2, 1) := by decide +kernel
theorem dX11_turn_67 : decode cX11_turn 67 = .ok (.invokevirtual 290, 3) := by decide +kernel
theorem dX11_turn_70 : decode cX11_turn 70 = .ok (.aload_n 3, 1) := by decide +kernel
theorem dX11_turn_71 : decode cX11_turn 71 = .ok (.aload_n 0, 1) := by decide +kernel
theorem dX11_turn_72 : decode cX11_turn 72 = .ok (.getfield 10, 3) := by decide +kernel
theorem dX11_turn_75 : decode cX11_turn 75 = .ok (.getfield 135, 3) := by decide +kernel
theorem dX11_turn_78 : decode cX11_turn 78 = .ok (.invokevirtual 196, 3) := by decide +kernel
theorem dX11_turn_81 : decode cX11_turn 81 = .ok (.ireturn, 1) := by decide +kernel
theorem dX11_longer_0 : decode cX11_longer 0 = .ok (.aload_n 0, 1) := by decide +kernel
theorem dX11_longer_1 : decode cX11_longer 1 = .ok (.aload_n 0, 1) := by decide +kernel
theorem dX11_longer_2 : decode cX11_longer 2 = .ok (.getfield 10, 3) := by decide +kernel
theorem dX11_longer_5 : decode cX11_longer 5 = .ok (.iload_n 1, 1) := by decide +kernel
theorem dX11_longer_6 : decode cX11_longer 6 = .ok (.iload_n 2, 1) := by decide +kernel
theorem dX11_longer_7 : decode cX11_longer 7 = .ok (.iload_n 3, 1) := by decide +kernel
theorem dX11_longer_8 : decode cX11_longer 8 = .ok (.iload 4, 2) := by decide +kernel
theorem dX11_longer_10 : decode cX11_longer 10 = .ok (.invokevirtual 293, 3) := by decide +kernel
theorem dX11_longer_13 : decode cX11_longer 13 = .ok (.putfield 74, 3) := by decide +kernel
theorem dX11_longer_16 : decode cX11_longer 16 = .ok (.aload_n 0, 1) := by decide +kernel
theorem dX11_longer_17 : decode cX11_longer 17 = .ok (.getfield 10, 3) := by decide +kernel
theorem dX11_longer_20 : decode cX11_longer 20 = .ok (.iload_n 1, 1) := by decide +kernel
theorem dX11_longer_21 : decode cX11_longer 21 = .ok (.invokevirtual 168, 3) := by decide +kernel
theorem dX11_longer_24 : decode cX11_longer 24 = .ok (.astore 5, 2) := by decide +kernel
theorem dX11_longer_26 : decode cX11_longer 26 = .ok (.aload_n 0, 1) := by decide +kernel
theorem dX11_longer_27 : decode cX11_longer 27 = .ok (.getfield 74, 3) := by decide +kernel
theorem dX11_longer_30 : decode cX11_longer 30 = .ok (.ifCond .ne 8, 3) := by decide +kernel
theorem dX11_longer_33 : decode cX11_longer 33 = .ok (.aload 5, 2) := by decide +kernel
theorem dX11_longer_35 : decode cX11_longer 35 = .ok (.ifnonnull 5, 3) := by decide +kernel
theorem dX11_longer_38 : decode cX11_longer 38 = .ok (.iconst (-1), 1) := by decide +kernel
theorem dX11_longer_39 : decode cX11_longer 39 = .ok (.ireturn, 1) := by decide +kernel
theorem dX11_longer_40 : decode cX11_longer 40 = .ok (.aload_n 0, 1) := by decide +kernel
theorem dX11_longer_41 : decode cX11_longer 41 = .ok (.getfield 26, 3) := by decide +kernel
theorem dX11_longer_44 : decode cX11_longer 44 = .ok (.aload_n 0, 1) := by decide +kernel
theorem dX11_longer_45 : decode cX11_longer 45 = .ok (.getfield 10, 3) := by decide +kernel
theorem dX11_longer_48 : decode cX11_longer 48 = .ok (.invokevirtual 247, 3) := by decide +kernel
theorem dX11_longer_51 : decode cX11_longer 51 = .ok (.aload 5, 2) := by decide +kernel
theorem dX11_longer_53 : decode cX11_longer 53 = .ok (.iload_n 2, 1) := by decide +kernel
theorem dX11_longer_54 : decode cX11_longer 54 = .ok (.iload_n 3, 1) := by decide +kernel
theorem dX11_longer_55 : decode cX11_longer 55 = .ok (.invokevirtual 297, 3) := by decide +kernel
theorem dX11_longer_58 : decode cX11_longer 58 = .ok (.aload 5, 2) := by decide +kernel
theorem dX11_longer_60 : decode cX11_longer 60 = .ok (.aload_n 0, 1) := by decide +kernel
theorem dX11_longer_61 : decode cX11_longer 61 = .ok (.getfield 10, 3) := by decide +kernel
theorem dX11_longer_64 : decode cX11_longer 64 = .ok (.getfield 135, 3) := by decide +kernel
theorem dX11_longer_67 : decode cX11_longer 67 = .ok (.iload 4, 2) := by decide +kernel
theorem dX11_longer_69 : decode cX11_longer 69 = .ok (.invokevirtual 290, 3) := by decide +kernel
theorem dX11_longer_72 : decode cX11_longer 72 = .ok (.aload 5, 2) := by decide +kernel
theorem dX11_longer_74 : decode cX11_longer 74 = .ok (.invokevirtual 300, 3) := by decide +kernel
theorem dX11_longer_77 : decode cX11_longer 77 = .ok (.ireturn, 1) := by decide +kernel
theorem dX11_lower_0 : decode cX11_lower 0 = .ok (.aload_n 0, 1) := by decide +kernel
theorem dX11_lower_1 : decode cX11_lower 1 = .ok (.aload_n 0, 1) := by decide +kernel
theorem dX11_lower_2 : decode cX11_lower 2 = .ok (.getfield 10, 3) := by decide +kernel
theorem dX11_lower_5 : decode cX11_lower 5 = .ok (.iload_n 1, 1) := by decide +kernel
theorem dX11_lower_6 : decode cX11_lower 6 = .ok (.iload_n 2, 1) := by decide +kernel
theorem dX11_lower_7 : decode cX11_lower 7 = .ok (.invokevirtual 282, 3) := by decide +kernel
theorem dX11_lower_10 : decode cX11_lower 10 = .ok (.putfield 74, 3) := by decide +kernel
theorem dX11_lower_13 : decode cX11_lower 13 = .ok (.aload_n 0, 1) := by decide +kernel
theorem dX11_lower_14 : decode cX11_lower 14 = .ok (.getfield 10, 3) := by decide +kernel
theorem dX11_lower_17 : decode cX11_lower 17 = .ok (.iload_n 1, 1) := by decide +kernel
theorem dX11_lower_18 : decode cX11_lower 18 = .ok (.invokevirtual 168, 3) := by decide +kernel
theorem dX11_lower_21 : decode cX11_lower 21 = .ok (.astore_n 3, 1) := by decide +kernel
theorem dX11_lower_22 : decode cX11_lower 22 = .ok (.aload_n 0, 1) := by decide +kernel
theorem dX11_lower_23 : decode cX11_lower 23 = .ok (.getfield 74, 3) := by decide +kernel
theorem dX11_lower_26 : decode cX11_lower 26 = .ok (.ifCond .ne 7, 3) := by decide +kernel
theorem dX11_lower_29 : decode cX11_lower 29 = .ok (.aload_n 3, 1) := by decide +kernel
theorem dX11_lower_30 : decode cX11_lower 30 = .ok (.ifnonnull 5, 3) := by decide +kernel
theorem dX11_lower_33 : decode cX11_lower 33 = .ok (.iconst (-1), 1) := by decide +kernel
theorem dX11_lower_34 : decode cX11_lower 34 = .ok (.ireturn, 1) := by decide +kernel
theorem dX11_lower_35 : decode cX11_lower 35 = .ok (.aload_n 0, 1) := by decide +kernel
theorem dX11_lower_36 : decode cX11_lower 36 = .ok (.getfield 26, 3) := by decide +kernel
theorem dX11_lower_39 : decode cX11_lower 39 = .ok (.aload_n 0, 1) := by decide +kernel
theorem dX11_lower_40 : decode cX11_lower 40 = .ok (.getfield 10, 3) := by decide +kernel
theorem dX11_lower_43 : decode cX11_lower 43 = .ok (.invokevirtual 247, 3) := by decide +kernel
theorem dX11_lower_46 : decode cX11_lower 46 = .ok (.aload_n 3, 1) := by decide +kernel
theorem dX11_lower_47 : decode cX11_lower 47 = .ok (.aload_n 0, 1) := by decide +kernel
theorem dX11_lower_48 : decode cX11_lower 48 = .ok (.getfield 10, 3) := by decide +kernel
theorem dX11_lower_51 : decode cX11_lower 51 = .ok (.getfield 135, 3) := by decide +kernel
theorem dX11_lower_54 : decode cX11_lower 54 = .ok (.iload_n 2, 1) := by decide +kernel
theorem dX11_lower_55 : decode cX11_lower 55 = .ok (.invokevirtual 286, 3) := by decide +kernel
theorem dX11_lower_58 : decode cX11_lower 58 = .ok (.aload_n 3, 1) := by decide +kernel
theorem dX11_lower_59 : decode cX11_lower 59 = .ok (.aload_n 0, 1) := by decide +kernel
theorem dX11_lower_60 : decode cX11_lower 60 = .ok (.getfield 10, 3) := by decide +kernel
theorem dX11_lower_63 : decode cX11_lower 63 = .ok (.getfield 135, 3) := by decide +kernel
theorem dX11_lower_66 : decode cX11_lower 66 = .ok (.invokevirtual 196, 3) := by decide +kernel
theorem dX11_lower_69 : decode cX11_lower 69 = .ok (.ireturn, 1) := by decide +kernel
theorem dX11_days_0 : decode cX11_days 0 = .ok (.aload_n 0, 1) := by decide +kernel
theorem dX11_days_1 : decode cX11_days 1 = .ok (.iload_n 1, 1) := by decide +kernel
theorem dX11_days_2 : decode cX11_days 2 = .ok (.iconst 1, 1) := by decide +kernel
theorem dX11_days_3 : decode cX11_days 3 = .ok (.if_icmp .lt 18, 3) := by decide +kernel
theorem dX11_days_6 : decode cX11_days 6 = .ok (.iload_n 1, 1) := by decide +kernel
theorem dX11_days_7 : decode cX11_days 7 = .ok (.sipush 364, 3) := by decide +kernel
theorem dX11_days_10 : decode cX11_days 10 = .ok (.aload_n 0, 1) := by decide +kernel
theorem dX11_days_11 : decode cX11_days 11 = .ok (.getfield 10, 3) := by decide +kernel
theorem dX11_days_14 : decode cX11_days 14 = .ok (.getfield 138, 3) := by decide +kernel
theorem dX11_days_17 : decode cX11_days 17 = .ok (.isub, 1) := by decide +kernel
theorem dX11_days_18 : decode cX11_days 18 = .ok (.if_icmp .le 7, 3) := by decide +kernel
theorem dX11_days_21 : decode cX11_days 21 = .ok (.iconst 4, 1) := by decide +kernel
theorem dX11_days_22 : decode cX11_days 22 = .ok (.goto 4, 3) := by decide +kernel
theorem dX11_days_25 : decode cX11_days 25 = .ok (.iconst 0, 1) := by decide +kernel
theorem dX11_days_26 : decode cX11_days 26 = .ok (.putfield 74, 3) := by decide +kernel
theorem dX11_days_29 : decode cX11_days 29 = .ok (.aload_n 0, 1) := by decide +kernel
theorem dX11_days_30 : decode cX11_days 30 = .ok (.getfield 74, 3) := by decide +kernel
theorem dX11_days_33 : decode cX11_days 33 = .ok (.ifCond .eq 5, 3) := by decide +kernel
theorem dX11_days_36 : decode cX11_days 36 = .ok (.iconst (-1), 1) := by decide +kernel
theorem dX11_days_37 : decode cX11_days 37 = .ok (.ireturn, 1) := by decide +kernel
theorem dX11_days_38 : decode cX11_days 38 = .ok (.aload_n 0, 1) := by decide +kernel
theorem dX11_days_39 : decode cX11_days 39 = .ok (.getfield 26, 3) := by decide +kernel
theorem dX11_days_42 : decode cX11_days 42 = .ok (.aload_n 0, 1) := by decide +kernel
theorem dX11_days_43 : decode cX11_days 43 = .ok (.getfield 10, 3) := by decide +kernel
theorem dX11_days_46 : decode cX11_days 46 = .ok (.invokevirtual 247, 3) := by decide +kernel
theorem dX11_days_49 : decode cX11_days 49 = .ok (.aload_n 0, 1) := by decide +kernel
theorem dX11_days_50 : decode cX11_days 50 = .ok (.getfield 10, 3) := by decide +kernel
theorem dX11_days_53 : decode cX11_days 53 = .ok (.dup, 1) := by decide +kernel
theorem dX11_days_54 : decode cX11_days 54 = .ok (.getfield 138, 3) := by decide +kernel
theorem dX11_days_57 : decode cX11_days 57 = .ok (.iload_n 1, 1) := by decide +kernel
theorem dX11_days_58 : decode cX11_days 58 = .ok (.iadd, 1) := by decide +kernel
theorem dX11_days_59 : decode cX11_days 59 = .ok (.putfield 138, 3) := by decide +kernel
theorem dX11_days_62 : decode cX11_days 62 = .ok (.aload_n 0, 1) := by decide +kernel
theorem dX11_days_63 : decode cX11_days 63 = .ok (.getfield 10, 3) := by decide +kernel
theorem dX11_days_66 : decode cX11_days 66 = .ok (.getfield 138, 3) := by decide +kernel
theorem dX11_days_69 : decode cX11_days 69 = .ok (.ireturn, 1) := by decide +kernel
theorem dX11_year_0 : decode cX11_year 0 = .ok (.aload_n 0, 1) := by decide +kernel
theorem dX11_year_1 : decode cX11_year 1 = .ok (.aload_n 0, 1) := by decide +kernel
theorem dX11_year_2 : decode cX11_year 2 = .ok (.getfield 10, 3) := by decide +kernel
theorem dX11_year_5 : decode cX11_year 5 = .ok (.getfield 135, 3) := by decide +kernel
theorem dX11_year_8 : decode cX11_year 8 = .ok (.bipush 19, 2) := by decide +kernel
theorem dX11_year_10 : decode cX11_year 10 = .ok (.if_icmp .lt 8, 3) := by decide +kernel
theorem dX11_year_13 : decode cX11_year 13 = .ok (.bipush 7, 2) := by decide +kernel
theorem dX11_year_15 : decode cX11_year 15 = .ok (.goto 4, 3) := by decide +kernel
theorem dX11_year_18 : decode cX11_year 18 = .ok (.iconst 0, 1) := by decide +kernel
theorem dX11_year_19 : decode cX11_year 19 = .ok (.putfield 74, 3) := by decide +kernel
theorem dX11_year_22 : decode cX11_year 22 = .ok (.aload_n 0, 1) := by decide +kernel
theorem dX11_year_23 : decode cX11_year 23 = .ok (.getfield 74, 3) := by decide +kernel
theorem dX11_year_26 : decode cX11_year 26 = .ok (.ifCond .eq 5, 3) := by decide +kernel
theorem dX11_year_29 : decode cX11_year 29 = .ok (.iconst (-1), 1) := by decide +kernel
theorem dX11_year_30 : decode cX11_year 30 = .ok (.ireturn, 1) := by decide +kernel
theorem dX11_year_31 : decode cX11_year 31 = .ok (.aload_n 0, 1) := by decide +kernel
theorem dX11_year_32 : decode cX11_year 32 = .ok (.getfield 26, 3) := by decide +kernel
theorem dX11_year_35 : decode cX11_year 35 = .ok (.aload_n 0, 1) := by decide +kernel
theorem dX11_year_36 : decode cX11_year 36 = .ok (.getfield 10, 3) := by decide +kernel
theorem dX11_year_39 : decode cX11_year 39 = .ok (.invokevirtual 247, 3) := by decide +kernel
theorem dX11_year_42 : decode cX11_year 42 = .ok (.aload_n 0, 1) := by decide +kernel
theorem dX11_year_43 : decode cX11_year 43 = .ok (.getfield 56, 3) := by decide +kernel
theorem dX11_year_46 : decode cX11_year 46 = .ok (.aload_n 0, 1) := by decide +kernel
theorem dX11_year_47 : decode cX11_year 47 = .ok (.getfield 10, 3) := by decide +kernel
theorem dX11_year_50 : decode cX11_year 50 = .ok (.invokevirtual 211, 3) := by decide +kernel
theorem dX11_year_53 : decode cX11_year 53 = .ok (.aload_n 0, 1) := by decide +kernel
theorem dX11_year_54 : decode cX11_year 54 = .ok (.getfield 10, 3) := by decide +kernel
theorem dX11_year_57 : decode cX11_year 57 = .ok (.aload_n 0, 1) := by decide +kernel
theorem dX11_year_58 : decode cX11_year 58 = .ok (.getfield 56, 3) := by decide +kernel
theorem dX11_year_61 : decode cX11_year 61 = .ok (.aload_n 0, 1) := by decide +kernel
theorem dX11_year_62 : decode cX11_year 62 = .ok (.getfield 10, 3) := by decide +kernel
theorem dX11_year_65 : decode cX11_year 65 = .ok (.invokevirtual 218, 3) := by decide +kernel
theorem dX11_year_68 : decode cX11_year 68 = .ok (.invokevirtual 303, 3) := by decide +kernel
theorem dX11_year_71 : decode cX11_year 71 = .ok (.ireturn, 1) := by decide +kernel
theorem dX11_says_0 : decode cX11_says 0 = .ok (.aload_n 0, 1) := by decide +kernel
theorem dX11_says_1 : decode cX11_says 1 = .ok (.getfield 10, 3) := by decide +kernel
theorem dX11_says_4 : decode cX11_says 4 = .ok (.getfield 101, 3) := by decide +kernel
theorem dX11_says_7 : decode cX11_says 7 = .ok (.getfield 306, 3) := by decide +kernel
theorem dX11_says_10 : decode cX11_says 10 = .ok (.ifCond .eq 14, 3) := by decide +kernel
theorem dX11_says_13 : decode cX11_says 13 = .ok (.aload_n 0, 1) := by decide +kernel
theorem dX11_says_14 : decode cX11_says 14 = .ok (.getfield 10, 3) := by decide +kernel
theorem dX11_says_17 : decode cX11_says 17 = .ok (.iload_n 1, 1) := by decide +kernel
theorem dX11_says_18 : decode cX11_says 18 = .ok (.invokevirtual 222, 3) := by decide +kernel
theorem dX11_says_21 : decode cX11_says 21 = .ok (.ifnonnull 7, 3) := by decide +kernel
theorem dX11_says_24 : decode cX11_says 24 = .ok (.ldc2_w 307, 3) := by decide +kernel
theorem dX11_says_27 : decode cX11_says 27 = .ok (.lreturn, 1) := by decide +kernel
theorem dX11_says_28 : decode cX11_says 28 = .ok (.aload_n 0, 1) := by decide +kernel
theorem dX11_says_29 : decode cX11_says 29 = .ok (.getfield 56, 3) := by decide +kernel
theorem dX11_says_32 : decode cX11_says 32 = .ok (.aload_n 0, 1) := by decide +kernel
theorem dX11_says_33 : decode cX11_says 33 = .ok (.getfield 10, 3) := by decide +kernel
theorem dX11_says_36 : decode cX11_says 36 = .ok (.invokevirtual 211, 3) := by decide +kernel
theorem dX11_says_39 : decode cX11_says 39 = .ok (.aload_n 0, 1) := by decide +kernel
theorem dX11_says_40 : decode cX11_says 40 = .ok (.iload_n 1, 1) := by decide +kernel
theorem dX11_says_41 : decode cX11_says 41 = .ok (.invokevirtual 309, 3) := by decide +kernel
theorem dX11_says_44 : decode cX11_says 44 = .ok (.lreturn, 1) := by decide +kernel
theorem dX11_byPolicy_0 : decode cX11_byPolicy 0 = .ok (.aload_n 0, 1) := by decide +kernel
theorem dX11_byPolicy_1 : decode cX11_byPolicy 1 = .ok (.getfield 10, 3) := by decide +kernel
theorem dX11_byPolicy_4 : decode cX11_byPolicy 4 = .ok (.getfield 101, 3) := by decide +kernel
theorem dX11_byPolicy_7 : decode cX11_byPolicy 7 = .ok (.getfield 306, 3) := by decide +kernel
theorem dX11_byPolicy_10 : decode cX11_byPolicy 10 = .ok (.ifCond .eq 10, 3) := by decide +kernel
theorem dX11_byPolicy_13 : decode cX11_byPolicy 13 = .ok (.iload_n 1, 1) := by decide +kernel
theorem dX11_byPolicy_14 : decode cX11_byPolicy 14 = .ok (.invokestatic 313, 3) := by decide +kernel
theorem dX11_byPolicy_17 : decode cX11_byPolicy 17 = .ok (.ifCond .ne 5, 3) := by decide +kernel
theorem dX11_byPolicy_20 : decode cX11_byPolicy 20 = .ok (.iconst (-1), 1) := by decide +kernel
theorem dX11_byPolicy_21 : decode cX11_byPolicy 21 = .ok (.ireturn, 1) := by decide +kernel
theorem dX11_byPolicy_22 : decode cX11_byPolicy 22 = .ok (.iconst 0, 1) := by decide +kernel
theorem dX11_byPolicy_23 : decode cX11_byPolicy 23 = .ok (.istore_n 2, 1) := by decide +kernel
theorem dX11_byPolicy_24 : decode cX11_byPolicy 24 = .ok (.iconst 0, 1) := by decide +kernel
theorem dX11_byPolicy_25 : decode cX11_byPolicy 25 = .ok (.istore_n 3, 1) := by decide +kernel
theorem dX11_byPolicy_26 : decode cX11_byPolicy 26 = .ok (.iload_n 3, 1) := by decide +kernel
theorem dX11_byPolicy_27 : decode cX11_byPolicy 27 = .ok (.bipush 40, 2) := by decide +kernel
theorem dX11_byPolicy_29 : decode cX11_byPolicy 29 = .ok (.if_icmp .ge 79, 3) := by decide +kernel
theorem dX11_byPolicy_32 : decode cX11_byPolicy 32 = .ok (.aload_n 0, 1) := by decide +kernel
theorem dX11_byPolicy_33 : decode cX11_byPolicy 33 = .ok (.getfield 56, 3) := by decide +kernel
theorem dX11_byPolicy_36 : decode cX11_byPolicy 36 = .ok (.aload_n 0, 1) := by decide +kernel
theorem dX11_byPolicy_37 : decode cX11_byPolicy 37 = .ok (.getfield 10, 3) := by decide +kernel
theorem dX11_byPolicy_40 : decode cX11_byPolicy 40 = .ok (.invokevirtual 211, 3) := by decide +kernel
theorem dX11_byPolicy_43 : decode cX11_byPolicy 43 = .ok (.aload_n 0, 1) := by decide +kernel
theorem dX11_byPolicy_44 : decode cX11_byPolicy 44 = .ok (.getfield 56, 3) := by decide +kernel
theorem dX11_byPolicy_47 : decode cX11_byPolicy 47 = .ok (.aload_n 0, 1) := by decide +kernel
theorem dX11_byPolicy_48 : decode cX11_byPolicy 48 = .ok (.getfield 10, 3) := by decide +kernel
theorem dX11_byPolicy_51 : decode cX11_byPolicy 51 = .ok (.invokevirtual 218, 3) := by decide +kernel
theorem dX11_byPolicy_54 : decode cX11_byPolicy 54 = .ok (.iload_n 1, 1) := by decide +kernel
theorem dX11_byPolicy_55 : decode cX11_byPolicy 55 = .ok (.if_icmp .lt 5, 3) := by decide +kernel
theorem dX11_byPolicy_58 : decode cX11_byPolicy 58 = .ok (.iload_n 2, 1) := by decide +kernel
theorem dX11_byPolicy_59 : decode cX11_byPolicy 59 = .ok (.ireturn, 1) := by decide +kernel
theorem dX11_byPolicy_60 : decode cX11_byPolicy 60 = .ok (.aload_n 0, 1) := by decide +kernel
theorem dX11_byPolicy_61 : decode cX11_byPolicy 61 = .ok (.invokevirtual 316, 3) := by decide +kernel
theorem dX11_byPolicy_64 : decode cX11_byPolicy 64 = .ok (.istore 4, 2) := by decide +kernel
theorem dX11_byPolicy_66 : decode cX11_byPolicy 66 = .ok (.iload 4, 2) := by decide +kernel
theorem dX11_byPolicy_68 : decode cX11_byPolicy 68 = .ok (.iconst (-1), 1) := by decide +kernel
theorem dX11_byPolicy_69 : decode cX11_byPolicy 69 = .ok (.if_icmp .ne 5, 3) := by decide +kernel
theorem dX11_byPolicy_72 : decode cX11_byPolicy 72 = .ok (.iload_n 2, 1) := by decide +kernel
theorem dX11_byPolicy_73 : decode cX11_byPolicy 73 = .ok (.ireturn, 1) := by decide +kernel
theorem dX11_byPolicy_74 : decode cX11_byPolicy 74 = .ok (.iload_n 2, 1) := by decide +kernel
theorem dX11_byPolicy_75 : decode cX11_byPolicy 75 = .ok (.ifCond .ne 14, 3) := by decide +kernel
theorem dX11_byPolicy_78 : decode cX11_byPolicy 78 = .ok (.aload_n 0, 1) := by decide +kernel
theorem dX11_byPolicy_79 : decode cX11_byPolicy 79 = .ok (.getfield 26, 3) := by decide +kernel
theorem dX11_byPolicy_82 : decode cX11_byPolicy 82 = .ok (.aload_n 0, 1) := by decide +kernel
theorem dX11_byPolicy_83 : decode cX11_byPolicy 83 = .ok (.getfield 10, 3) := by decide +kernel
theorem dX11_byPolicy_86 : decode cX11_byPolicy 86 = .ok (.invokevirtual 247, 3) := by decide +kernel
theorem dX11_byPolicy_89 : decode cX11_byPolicy 89 = .ok (.aload_n 0, 1) := by decide +kernel
theorem dX11_byPolicy_90 : decode cX11_byPolicy 90 = .ok (.getfield 10, 3) := by decide +kernel
theorem dX11_byPolicy_93 : decode cX11_byPolicy 93 = .ok (.iload 4, 2) := by decide +kernel
theorem dX11_byPolicy_95 : decode cX11_byPolicy 95 = .ok (.iconst 0, 1) := by decide +kernel
theorem dX11_byPolicy_96 : decode cX11_byPolicy 96 = .ok (.invokevirtual 319, 3) := by decide +kernel
theorem dX11_byPolicy_99 : decode cX11_byPolicy 99 = .ok (.iinc 2 1, 3) := by decide +kernel
theorem dX11_byPolicy_102 : decode cX11_byPolicy 102 = .ok (.iinc 3 1, 3) := by decide +kernel
theorem dX11_byPolicy_105 : decode cX11_byPolicy 105 = .ok (.goto (-79), 3) := by decide +kernel
theorem dX11_byPolicy_108 : decode cX11_byPolicy 108 = .ok (.iload_n 2, 1) := by decide +kernel
theorem dX11_byPolicy_109 : decode cX11_byPolicy 109 = .ok (.ireturn, 1) := by decide +kernel
theorem dX11_set_0 : decode cX11_set 0 = .ok (.iload_n 1, 1) := by decide +kernel
theorem dX11_set_1 : decode cX11_set 1 = .ok (.invokestatic 313, 3) := by decide +kernel
theorem dX11_set_4 : decode cX11_set 4 = .ok (.ifCond .eq 12, 3) := by decide +kernel
theorem dX11_set_7 : decode cX11_set 7 = .ok (.iload_n 2, 1) := by decide +kernel
theorem dX11_set_8 : decode cX11_set 8 = .ok (.ifCond .lt 8, 3) := by decide +kernel
theorem dX11_set_11 : decode cX11_set 11 = .ok (.iload_n 2, 1) := by decide +kernel
theorem dX11_set_12 : decode cX11_set 12 = .ok (.iconst 1, 1) := by decide +kernel
theorem dX11_set_13 : decode cX11_set 13 = .ok (.if_icmp .le 5, 3) := by decide +kernel
theorem dX11_set_16 : decode cX11_set 16 = .ok (.iconst (-1), 1) := by decide +kernel
theorem dX11_set_17 : decode cX11_set 17 = .ok (.ireturn, 1) := by decide +kernel
theorem dX11_set_18 : decode cX11_set 18 = .ok (.aload_n 0, 1) := by decide +kernel
theorem dX11_set_19 : decode cX11_set 19 = .ok (.getfield 63, 3) := by decide +kernel
theorem dX11_set_22 : decode cX11_set 22 = .ok (.aload_n 0, 1) := by decide +kernel
theorem dX11_set_23 : decode cX11_set 23 = .ok (.getfield 10, 3) := by decide +kernel
theorem dX11_set_26 : decode cX11_set 26 = .ok (.aload_n 0, 1) := by decide +kernel
theorem dX11_set_27 : decode cX11_set 27 = .ok (.getfield 56, 3) := by decide +kernel
theorem dX11_set_30 : decode cX11_set 30 = .ok (.iload_n 1, 1) := by decide +kernel
theorem dX11_set_31 : decode cX11_set 31 = .ok (.invokevirtual 323, 3) := by decide +kernel
theorem dX11_set_34 : decode cX11_set 34 = .ok (.aload_n 0, 1) := by decide +kernel
theorem dX11_set_35 : decode cX11_set 35 = .ok (.getfield 63, 3) := by decide +kernel
theorem dX11_set_38 : decode cX11_set 38 = .ok (.getfield 327, 3) := by decide +kernel
theorem dX11_set_41 : decode cX11_set 41 = .ok (.ifCond .ne 6, 3) := by decide +kernel
theorem dX11_set_44 : decode cX11_set 44 = .ok (.bipush (-2), 2) := by decide +kernel
theorem dX11_set_46 : decode cX11_set 46 = .ok (.ireturn, 1) := by decide +kernel
theorem dX11_set_47 : decode cX11_set 47 = .ok (.iload_n 2, 1) := by decide +kernel
theorem dX11_set_48 : decode cX11_set 48 = .ok (.ifCond .ne 13, 3) := by decide +kernel
theorem dX11_set_51 : decode cX11_set 51 = .ok (.aload_n 0, 1) := by decide +kernel
theorem dX11_set_52 : decode cX11_set 52 = .ok (.getfield 63, 3) := by decide +kernel
theorem dX11_set_55 : decode cX11_set 55 = .ok (.getfield 331, 3) := by decide +kernel
theorem dX11_set_58 : decode cX11_set 58 = .ok (.goto 10, 3) := by decide +kernel
theorem dX11_set_61 : decode cX11_set 61 = .ok (.aload_n 0, 1) := by decide +kernel
theorem dX11_set_62 : decode cX11_set 62 = .ok (.getfield 63, 3) := by decide +kernel
theorem dX11_set_65 : decode cX11_set 65 = .ok (.getfield 334, 3) := by decide +kernel
theorem dX11_set_68 : decode cX11_set 68 = .ok (.ireturn, 1) := by decide +kernel
theorem dX11_turned_0 : decode cX11_turned 0 = .ok (.aload_n 0, 1) := by decide +kernel
theorem dX11_turned_1 : decode cX11_turned 1 = .ok (.getfield 10, 3) := by decide +kernel
theorem dX11_turned_4 : decode cX11_turned 4 = .ok (.iload_n 1, 1) := by decide +kernel
theorem dX11_turned_5 : decode cX11_turned 5 = .ok (.invokevirtual 222, 3) := by decide +kernel
theorem dX11_turned_8 : decode cX11_turned 8 = .ok (.astore_n 3, 1) := by decide +kernel
theorem dX11_turned_9 : decode cX11_turned 9 = .ok (.aload_n 3, 1) := by decide +kernel
theorem dX11_turned_10 : decode cX11_turned 10 = .ok (.ifnonnull 5, 3) := by decide +kernel
theorem dX11_turned_13 : decode cX11_turned 13 = .ok (.iconst (-1), 1) := by decide +kernel
theorem dX11_turned_14 : decode cX11_turned 14 = .ok (.ireturn, 1) := by decide +kernel
theorem dX11_turned_15 : decode cX11_turned 15 = .ok (.iload_n 2, 1) := by decide +kernel
theorem dX11_turned_16 : decode cX11_turned 16 = .ok (.lookupswitch 55 #[(0, 28), (1, 37)], 28) := by decide +kernel
theorem dX11_turned_44 : decode cX11_turned 44 = .ok (.aload_n 0, 1) := by decide +kernel
theorem dX11_turned_45 : decode cX11_turned 45 = .ok (.getfield 10, 3) := by decide +kernel
theorem dX11_turned_48 : decode cX11_turned 48 = .ok (.aload_n 3, 1) := by decide +kernel
theorem dX11_turned_49 : decode cX11_turned 49 = .ok (.invokevirtual 337, 3) := by decide +kernel
theorem dX11_turned_52 : decode cX11_turned 52 = .ok (.ireturn, 1) := by decide +kernel
theorem dX11_turned_53 : decode cX11_turned 53 = .ok (.aload_n 0, 1) := by decide +kernel
theorem dX11_turned_54 : decode cX11_turned 54 = .ok (.getfield 56, 3) := by decide +kernel
theorem dX11_turned_57 : decode cX11_turned 57 = .ok (.aload_n 0, 1) := by decide +kernel
theorem dX11_turned_58 : decode cX11_turned 58 = .ok (.getfield 10, 3) := by decide +kernel
theorem dX11_turned_61 : decode cX11_turned 61 = .ok (.invokevirtual 211, 3) := by decide +kernel
theorem dX11_turned_64 : decode cX11_turned 64 = .ok (.aload_n 0, 1) := by decide +kernel
theorem dX11_turned_65 : decode cX11_turned 65 = .ok (.iload_n 1, 1) := by decide +kernel
theorem dX11_turned_66 : decode cX11_turned 66 = .ok (.aload_n 3, 1) := by decide +kernel
theorem dX11_turned_67 : decode cX11_turned 67 = .ok (.invokevirtual 340, 3) := by decide +kernel
theorem dX11_turned_70 : decode cX11_turned 70 = .ok (.ireturn, 1) := by decide +kernel
theorem dX11_turned_71 : decode cX11_turned 71 = .ok (.iconst (-1), 1) := by decide +kernel
theorem dX11_turned_72 : decode cX11_turned 72 = .ok (.ireturn, 1) := by decide +kernel
theorem dX11_ahead_0 : decode cX11_ahead 0 = .ok (.iload_n 1, 1) := by decide +kernel
theorem dX11_ahead_1 : decode cX11_ahead 1 = .ok (.invokestatic 158, 3) := by decide +kernel
theorem dX11_ahead_4 : decode cX11_ahead 4 = .ok (.ifCond .eq 25, 3) := by decide +kernel
theorem dX11_ahead_7 : decode cX11_ahead 7 = .ok (.iload_n 1, 1) := by decide +kernel
theorem dX11_ahead_8 : decode cX11_ahead 8 = .ok (.aload_n 0, 1) := by decide +kernel
theorem dX11_ahead_9 : decode cX11_ahead 9 = .ok (.getfield 10, 3) := by decide +kernel
theorem dX11_ahead_12 : decode cX11_ahead 12 = .ok (.getfield 135, 3) := by decide +kernel
theorem dX11_ahead_15 : decode cX11_ahead 15 = .ok (.if_icmp .le 14, 3) := by decide +kernel
theorem dX11_ahead_18 : decode cX11_ahead 18 = .ok (.aload_n 0, 1) := by decide +kernel
theorem dX11_ahead_19 : decode cX11_ahead 19 = .ok (.getfield 10, 3) := by decide +kernel
theorem dX11_ahead_22 : decode cX11_ahead 22 = .ok (.iload_n 1, 1) := by decide +kernel
theorem dX11_ahead_23 : decode cX11_ahead 23 = .ok (.invokevirtual 344, 3) := by decide +kernel
theorem dX11_ahead_26 : decode cX11_ahead 26 = .ok (.goto 4, 3) := by decide +kernel
theorem dX11_ahead_29 : decode cX11_ahead 29 = .ok (.iconst (-1), 1) := by decide +kernel
theorem dX11_ahead_30 : decode cX11_ahead 30 = .ok (.ireturn, 1) := by decide +kernel
theorem dX11_bestDay_0 : decode cX11_bestDay 0 = .ok (.aload_n 0, 1) := by decide +kernel
theorem dX11_bestDay_1 : decode cX11_bestDay 1 = .ok (.getfield 10, 3) := by decide +kernel
theorem dX11_bestDay_4 : decode cX11_bestDay 4 = .ok (.iload_n 1, 1) := by decide +kernel
theorem dX11_bestDay_5 : decode cX11_bestDay 5 = .ok (.invokevirtual 222, 3) := by decide +kernel
theorem dX11_bestDay_8 : decode cX11_bestDay 8 = .ok (.astore_n 2, 1) := by decide +kernel
theorem dX11_bestDay_9 : decode cX11_bestDay 9 = .ok (.aload_n 2, 1) := by decide +kernel
theorem dX11_bestDay_10 : decode cX11_bestDay 10 = .ok (.ifnonnull 5, 3) := by decide +kernel
theorem dX11_bestDay_13 : decode cX11_bestDay 13 = .ok (.iconst (-1), 1) := by decide +kernel
theorem dX11_bestDay_14 : decode cX11_bestDay 14 = .ok (.ireturn, 1) := by decide +kernel
theorem dX11_bestDay_15 : decode cX11_bestDay 15 = .ok (.aload_n 0, 1) := by decide +kernel
theorem dX11_bestDay_16 : decode cX11_bestDay 16 = .ok (.getfield 10, 3) := by decide +kernel
theorem dX11_bestDay_19 : decode cX11_bestDay 19 = .ok (.getfield 138, 3) := by decide +kernel
theorem dX11_bestDay_22 : decode cX11_bestDay 22 = .ok (.aload_n 0, 1) := by decide +kernel
theorem dX11_bestDay_23 : decode cX11_bestDay 23 = .ok (.getfield 10, 3) := by decide +kernel
theorem dX11_bestDay_26 : decode cX11_bestDay 26 = .ok (.getfield 141, 3) := by decide +kernel
theorem dX11_bestDay_29 : decode cX11_bestDay 29 = .ok (.if_icmp .ge 7, 3) := by decide +kernel
theorem dX11_bestDay_32 : decode cX11_bestDay 32 = .ok (.iconst 1, 1) := by decide +kernel
theorem dX11_bestDay_33 : decode cX11_bestDay 33 = .ok (.goto 4, 3) := by decide +kernel
theorem dX11_bestDay_36 : decode cX11_bestDay 36 = .ok (.iconst 0, 1) := by decide +kernel
theorem dX11_bestDay_37 : decode cX11_bestDay 37 = .ok (.istore_n 3, 1) := by decide +kernel
theorem dX11_bestDay_38 : decode cX11_bestDay 38 = .ok (.iload_n 3, 1) := by decide +kernel
theorem dX11_bestDay_39 : decode cX11_bestDay 39 = .ok (.ifCond .eq 40, 3) := by decide +kernel
theorem dX11_bestDay_42 : decode cX11_bestDay 42 = .ok (.aload_n 0, 1) := by decide +kernel
theorem dX11_bestDay_43 : decode cX11_bestDay 43 = .ok (.getfield 10, 3) := by decide +kernel
theorem dX11_bestDay_46 : decode cX11_bestDay 46 = .ok (.aload_n 2, 1) := by decide +kernel
theorem dX11_bestDay_47 : decode cX11_bestDay 47 = .ok (.aload_n 0, 1) := by decide +kernel
theorem dX11_bestDay_48 : decode cX11_bestDay 48 = .ok (.getfield 10, 3) := by decide +kernel
theorem dX11_bestDay_51 : decode cX11_bestDay 51 = .ok (.getfield 141, 3) := by decide +kernel
theorem dX11_bestDay_54 : decode cX11_bestDay 54 = .ok (.invokevirtual 225, 3) := by decide +kernel
theorem dX11_bestDay_57 : decode cX11_bestDay 57 = .ok (.aload_n 0, 1) := by decide +kernel
theorem dX11_bestDay_58 : decode cX11_bestDay 58 = .ok (.getfield 10, 3) := by decide +kernel
theorem dX11_bestDay_61 : decode cX11_bestDay 61 = .ok (.aload_n 2, 1) := by decide +kernel
theorem dX11_bestDay_62 : decode cX11_bestDay 62 = .ok (.aload_n 0, 1) := by decide +kernel
theorem dX11_bestDay_63 : decode cX11_bestDay 63 = .ok (.getfield 10, 3) := by decide +kernel
theorem dX11_bestDay_66 : decode cX11_bestDay 66 = .ok (.getfield 138, 3) := by decide +kernel
theorem dX11_bestDay_69 : decode cX11_bestDay 69 = .ok (.invokevirtual 225, 3) := by decide +kernel
theorem dX11_bestDay_72 : decode cX11_bestDay 72 = .ok (.if_icmp .ge 7, 3) := by decide +kernel
theorem dX11_bestDay_75 : decode cX11_bestDay 75 = .ok (.iconst 1, 1) := by decide +kernel
theorem dX11_bestDay_76 : decode cX11_bestDay 76 = .ok (.goto 4, 3) := by decide +kernel
theorem dX11_bestDay_79 : decode cX11_bestDay 79 = .ok (.iconst 0, 1) := by decide +kernel
theorem dX11_bestDay_80 : decode cX11_bestDay 80 = .ok (.ireturn, 1) := by decide +kernel
theorem dX11_coins_0 : decode cX11_coins 0 = .ok (.aload_n 0, 1) := by decide +kernel
theorem dX11_coins_1 : decode cX11_coins 1 = .ok (.getfield 10, 3) := by decide +kernel
theorem dX11_coins_4 : decode cX11_coins 4 = .ok (.iload_n 1, 1) := by decide +kernel
theorem dX11_coins_5 : decode cX11_coins 5 = .ok (.invokevirtual 168, 3) := by decide +kernel
theorem dX11_coins_8 : decode cX11_coins 8 = .ok (.astore_n 3, 1) := by decide +kernel
theorem dX11_coins_9 : decode cX11_coins 9 = .ok (.aload_n 3, 1) := by decide +kernel
theorem dX11_coins_10 : decode cX11_coins 10 = .ok (.ifnonnull 5, 3) := by decide +kernel
theorem dX11_coins_13 : decode cX11_coins 13 = .ok (.iconst (-1), 1) := by decide +kernel
theorem dX11_coins_14 : decode cX11_coins 14 = .ok (.ireturn, 1) := by decide +kernel
theorem dX11_coins_15 : decode cX11_coins 15 = .ok (.aload_n 3, 1) := by decide +kernel
theorem dX11_coins_16 : decode cX11_coins 16 = .ok (.aload_n 3, 1) := by decide +kernel
theorem dX11_coins_17 : decode cX11_coins 17 = .ok (.getfield 172, 3) := by decide +kernel
theorem dX11_coins_20 : decode cX11_coins 20 = .ok (.invokevirtual 347, 3) := by decide +kernel
theorem dX11_coins_23 : decode cX11_coins 23 = .ok (.istore 4, 2) := by decide +kernel
theorem dX11_coins_25 : decode cX11_coins 25 = .ok (.aload_n 3, 1) := by decide +kernel
theorem dX11_coins_26 : decode cX11_coins 26 = .ok (.aload_n 3, 1) := by decide +kernel
theorem dX11_coins_27 : decode cX11_coins 27 = .ok (.invokevirtual 192, 3) := by decide +kernel
theorem dX11_coins_30 : decode cX11_coins 30 = .ok (.ifCond .eq 15, 3) := by decide +kernel
theorem dX11_coins_33 : decode cX11_coins 33 = .ok (.aload_n 0, 1) := by decide +kernel
theorem dX11_coins_34 : decode cX11_coins 34 = .ok (.getfield 10, 3) := by decide +kernel
theorem dX11_coins_37 : decode cX11_coins 37 = .ok (.getfield 135, 3) := by decide +kernel
theorem dX11_coins_40 : decode cX11_coins 40 = .ok (.iconst 1, 1) := by decide +kernel
theorem dX11_coins_41 : decode cX11_coins 41 = .ok (.iadd, 1) := by decide +kernel
theorem dX11_coins_42 : decode cX11_coins 42 = .ok (.goto 7, 3) := by decide +kernel
theorem dX11_coins_45 : decode cX11_coins 45 = .ok (.aload_n 3, 1) := by decide +kernel
theorem dX11_coins_46 : decode cX11_coins 46 = .ok (.getfield 350, 3) := by decide +kernel
theorem dX11_coins_49 : decode cX11_coins 49 = .ok (.invokevirtual 347, 3) := by decide +kernel
theorem dX11_coins_52 : decode cX11_coins 52 = .ok (.istore 5, 2) := by decide +kernel
theorem dX11_coins_54 : decode cX11_coins 54 = .ok (.iload_n 2, 1) := by decide +kernel
theorem dX11_coins_55 : decode cX11_coins 55 = .ok (.tableswitch 66 0 3 #[29, 32, 38, 52], 29) := by decide +kernel
theorem dX11_coins_84 : decode cX11_coins 84 = .ok (.iload 4, 2) := by decide +kernel
theorem dX11_coins_86 : decode cX11_coins 86 = .ok (.ireturn, 1) := by decide +kernel
theorem dX11_coins_87 : decode cX11_coins 87 = .ok (.iload 4, 2) := by decide +kernel
theorem dX11_coins_89 : decode cX11_coins 89 = .ok (.iload 5, 2) := by decide +kernel
theorem dX11_coins_91 : decode cX11_coins 91 = .ok (.isub, 1) := by decide +kernel
theorem dX11_coins_92 : decode cX11_coins 92 = .ok (.ireturn, 1) := by decide +kernel
theorem dX11_coins_93 : decode cX11_coins 93 = .ok (.aload_n 3, 1) := by decide +kernel
theorem dX11_coins_94 : decode cX11_coins 94 = .ok (.invokevirtual 192, 3) := by decide +kernel
theorem dX11_coins_97 : decode cX11_coins 97 = .ok (.ifCond .eq 7, 3) := by decide +kernel
theorem dX11_coins_100 : decode cX11_coins 100 = .ok (.iconst 0, 1) := by decide +kernel
theorem dX11_coins_101 : decode cX11_coins 101 = .ok (.goto 5, 3) := by decide +kernel
theorem dX11_coins_104 : decode cX11_coins 104 = .ok (.iload 5, 2) := by decide +kernel
theorem dX11_coins_106 : decode cX11_coins 106 = .ok (.ireturn, 1) := by decide +kernel
theorem dX11_coins_107 : decode cX11_coins 107 = .ok (.aload_n 3, 1) := by decide +kernel
theorem dX11_coins_108 : decode cX11_coins 108 = .ok (.invokevirtual 192, 3) := by decide +kernel
theorem dX11_coins_111 : decode cX11_coins 111 = .ok (.ifCond .eq 8, 3) := by decide +kernel
theorem dX11_coins_114 : decode cX11_coins 114 = .ok (.iload 5, 2) := by decide +kernel
theorem dX11_coins_116 : decode cX11_coins 116 = .ok (.goto 4, 3) := by decide +kernel
theorem dX11_coins_119 : decode cX11_coins 119 = .ok (.iconst 0, 1) := by decide +kernel
theorem dX11_coins_120 : decode cX11_coins 120 = .ok (.ireturn, 1) := by decide +kernel
theorem dX11_coins_121 : decode cX11_coins 121 = .ok (.iconst (-1), 1) := by decide +kernel
theorem dX11_coins_122 : decode cX11_coins 122 = .ok (.ireturn, 1) := by decide +kernel
theorem dX11_freeYear_0 : decode cX11_freeYear 0 = .ok (.aload_n 0, 1) := by decide +kernel
theorem dX11_freeYear_1 : decode cX11_freeYear 1 = .ok (.getfield 10, 3) := by decide +kernel
theorem dX11_freeYear_4 : decode cX11_freeYear 4 = .ok (.iload_n 1, 1) := by decide +kernel
theorem dX11_freeYear_5 : decode cX11_freeYear 5 = .ok (.invokevirtual 168, 3) := by decide +kernel
theorem dX11_freeYear_8 : decode cX11_freeYear 8 = .ok (.astore_n 2, 1) := by decide +kernel
theorem dX11_freeYear_9 : decode cX11_freeYear 9 = .ok (.aload_n 2, 1) := by decide +kernel
theorem dX11_freeYear_10 : decode cX11_freeYear 10 = .ok (.ifnull 10, 3) := by decide +kernel
theorem dX11_freeYear_13 : decode cX11_freeYear 13 = .ok (.aload_n 2, 1) := by decide +kernel
theorem dX11_freeYear_14 : decode cX11_freeYear 14 = .ok (.invokevirtual 192, 3) := by decide +kernel
theorem dX11_freeYear_17 : decode cX11_freeYear 17 = .ok (.ifCond .ne 5, 3) := by decide +kernel
theorem dX11_freeYear_20 : decode cX11_freeYear 20 = .ok (.iconst (-1), 1) := by decide +kernel
theorem dX11_freeYear_21 : decode cX11_freeYear 21 = .ok (.ireturn, 1) := by decide +kernel
theorem dX11_freeYear_22 : decode cX11_freeYear 22 = .ok (.aload_n 2, 1) := by decide +kernel
theorem dX11_freeYear_23 : decode cX11_freeYear 23 = .ok (.getfield 172, 3) := by decide +kernel
theorem dX11_freeYear_26 : decode cX11_freeYear 26 = .ok (.aload_n 2, 1) := by decide +kernel
theorem dX11_freeYear_27 : decode cX11_freeYear 27 = .ok (.getfield 177, 3) := by decide +kernel
theorem dX11_freeYear_30 : decode cX11_freeYear 30 = .ok (.iadd, 1) := by decide +kernel
theorem dX11_freeYear_31 : decode cX11_freeYear 31 = .ok (.bipush 20, 2) := by decide +kernel
theorem dX11_freeYear_33 : decode cX11_freeYear 33 = .ok (.invokestatic 353, 3) := by decide +kernel
theorem dX11_freeYear_36 : decode cX11_freeYear 36 = .ok (.istore_n 3, 1) := by decide +kernel
theorem dX11_freeYear_37 : decode cX11_freeYear 37 = .ok (.aload_n 0, 1) := by decide +kernel
theorem dX11_freeYear_38 : decode cX11_freeYear 38 = .ok (.getfield 10, 3) := by decide +kernel
theorem dX11_freeYear_41 : decode cX11_freeYear 41 = .ok (.getfield 135, 3) := by decide +kernel
theorem dX11_freeYear_44 : decode cX11_freeYear 44 = .ok (.aload_n 2, 1) := by decide +kernel
theorem dX11_freeYear_45 : decode cX11_freeYear 45 = .ok (.getfield 172, 3) := by decide +kernel
theorem dX11_freeYear_48 : decode cX11_freeYear 48 = .ok (.invokestatic 358, 3) := by decide +kernel
theorem dX11_freeYear_51 : decode cX11_freeYear 51 = .ok (.istore 4, 2) := by decide +kernel
theorem dX11_freeYear_53 : decode cX11_freeYear 53 = .ok (.iload 4, 2) := by decide +kernel
theorem dX11_freeYear_55 : decode cX11_freeYear 55 = .ok (.iload_n 3, 1) := by decide +kernel
theorem dX11_freeYear_56 : decode cX11_freeYear 56 = .ok (.if_icmp .ge 39, 3) := by decide +kernel
theorem dX11_freeYear_59 : decode cX11_freeYear 59 = .ok (.aload_n 0, 1) := by decide +kernel
theorem dX11_freeYear_60 : decode cX11_freeYear 60 = .ok (.getfield 10, 3) := by decide +kernel
theorem dX11_freeYear_63 : decode cX11_freeYear 63 = .ok (.aload_n 2, 1) := by decide +kernel
theorem dX11_freeYear_64 : decode cX11_freeYear 64 = .ok (.iload 4, 2) := by decide +kernel
theorem dX11_freeYear_66 : decode cX11_freeYear 66 = .ok (.iconst 0, 1) := by decide +kernel
theorem dX11_freeYear_67 : decode cX11_freeYear 67 = .ok (.invokevirtual 361, 3) := by decide +kernel
theorem dX11_freeYear_70 : decode cX11_freeYear 70 = .ok (.aload_n 2, 1) := by decide +kernel
theorem dX11_freeYear_71 : decode cX11_freeYear 71 = .ok (.iload 4, 2) := by decide +kernel
theorem dX11_freeYear_73 : decode cX11_freeYear 73 = .ok (.invokevirtual 347, 3) := by decide +kernel
theorem dX11_freeYear_76 : decode cX11_freeYear 76 = .ok (.iadd, 1) := by decide +kernel
theorem dX11_freeYear_77 : decode cX11_freeYear 77 = .ok (.aload_n 2, 1) := by decide +kernel
theorem dX11_freeYear_78 : decode cX11_freeYear 78 = .ok (.iload 4, 2) := by decide +kernel
theorem dX11_freeYear_80 : decode cX11_freeYear 80 = .ok (.invokevirtual 196, 3) := by decide +kernel
theorem dX11_freeYear_83 : decode cX11_freeYear 83 = .ok (.if_icmp .ge 6, 3) := by decide +kernel
theorem dX11_freeYear_86 : decode cX11_freeYear 86 = .ok (.iload 4, 2) := by decide +kernel
theorem dX11_freeYear_88 : decode cX11_freeYear 88 = .ok (.ireturn, 1) := by decide +kernel
theorem dX11_freeYear_89 : decode cX11_freeYear 89 = .ok (.iinc 4 1, 3) := by decide +kernel
theorem dX11_freeYear_92 : decode cX11_freeYear 92 = .ok (.goto (-39), 3) := by decide +kernel
theorem dX11_freeYear_95 : decode cX11_freeYear 95 = .ok (.bipush (-2), 2) := by decide +kernel
theorem dX11_freeYear_97 : decode cX11_freeYear 97 = .ok (.ireturn, 1) := by decide +kernel
theorem dX11_allTurned_0 : decode cX11_allTurned 0 = .ok (.aload_n 0, 1) := by decide +kernel
theorem dX11_allTurned_1 : decode cX11_allTurned 1 = .ok (.getfield 56, 3) := by decide +kernel
theorem dX11_allTurned_4 : decode cX11_allTurned 4 = .ok (.aload_n 0, 1) := by decide +kernel
theorem dX11_allTurned_5 : decode cX11_allTurned 5 = .ok (.getfield 10, 3) := by decide +kernel
theorem dX11_allTurned_8 : decode cX11_allTurned 8 = .ok (.invokevirtual 211, 3) := by decide +kernel
theorem dX11_allTurned_11 : decode cX11_allTurned 11 = .ok (.iconst 0, 1) := by decide +kernel
theorem dX11_allTurned_12 : decode cX11_allTurned 12 = .ok (.istore_n 1, 1) := by decide +kernel
theorem dX11_allTurned_13 : decode cX11_allTurned 13 = .ok (.iload_n 1, 1) := by decide +kernel
theorem dX11_allTurned_14 : decode cX11_allTurned 14 = .ok (.aload_n 0, 1) := by decide +kernel
theorem dX11_allTurned_15 : decode cX11_allTurned 15 = .ok (.getfield 10, 3) := by decide +kernel
theorem dX11_allTurned_18 : decode cX11_allTurned 18 = .ok (.getfield 153, 3) := by decide +kernel
theorem dX11_allTurned_21 : decode cX11_allTurned 21 = .ok (.if_icmp .ge 53, 3) := by decide +kernel
theorem dX11_allTurned_24 : decode cX11_allTurned 24 = .ok (.aload_n 0, 1) := by decide +kernel
theorem dX11_allTurned_25 : decode cX11_allTurned 25 = .ok (.getfield 10, 3) := by decide +kernel
theorem dX11_allTurned_28 : decode cX11_allTurned 28 = .ok (.iload_n 1, 1) := by decide +kernel
theorem dX11_allTurned_29 : decode cX11_allTurned 29 = .ok (.invokevirtual 222, 3) := by decide +kernel
theorem dX11_allTurned_32 : decode cX11_allTurned 32 = .ok (.astore_n 2, 1) := by decide +kernel
theorem dX11_allTurned_33 : decode cX11_allTurned 33 = .ok (.aload_n 2, 1) := by decide +kernel
theorem dX11_allTurned_34 : decode cX11_allTurned 34 = .ok (.ifnull 34, 3) := by decide +kernel
theorem dX11_allTurned_37 : decode cX11_allTurned 37 = .ok (.aload_n 0, 1) := by decide +kernel
theorem dX11_allTurned_38 : decode cX11_allTurned 38 = .ok (.getfield 10, 3) := by decide +kernel
theorem dX11_allTurned_41 : decode cX11_allTurned 41 = .ok (.aload_n 2, 1) := by decide +kernel
theorem dX11_allTurned_42 : decode cX11_allTurned 42 = .ok (.invokevirtual 337, 3) := by decide +kernel
theorem dX11_allTurned_45 : decode cX11_allTurned 45 = .ok (.istore_n 3, 1) := by decide +kernel
theorem dX11_allTurned_46 : decode cX11_allTurned 46 = .ok (.aload_n 0, 1) := by decide +kernel
theorem dX11_allTurned_47 : decode cX11_allTurned 47 = .ok (.getfield 56, 3) := by decide +kernel
theorem dX11_allTurned_50 : decode cX11_allTurned 50 = .ok (.iload_n 1, 1) := by decide +kernel
theorem dX11_allTurned_51 : decode cX11_allTurned 51 = .ok (.iload_n 3, 1) := by decide +kernel
theorem dX11_allTurned_52 : decode cX11_allTurned 52 = .ok (.aload_n 2, 1) := by decide +kernel
theorem dX11_allTurned_53 : decode cX11_allTurned 53 = .ok (.iload_n 3, 1) := by decide +kernel
theorem dX11_allTurned_54 : decode cX11_allTurned 54 = .ok (.aload_n 0, 1) := by decide +kernel
theorem dX11_allTurned_55 : decode cX11_allTurned 55 = .ok (.getfield 10, 3) := by decide +kernel
theorem dX11_allTurned_58 : decode cX11_allTurned 58 = .ok (.getfield 135, 3) := by decide +kernel
theorem dX11_allTurned_61 : decode cX11_allTurned 61 = .ok (.iconst 0, 1) := by decide +kernel
theorem dX11_allTurned_62 : decode cX11_allTurned 62 = .ok (.invokevirtual 365, 3) := by decide +kernel
theorem dX11_allTurned_65 : decode cX11_allTurned 65 = .ok (.invokevirtual 369, 3) := by decide +kernel
theorem dX11_allTurned_68 : decode cX11_allTurned 68 = .ok (.iinc 1 1, 3) := by decide +kernel
theorem dX11_allTurned_71 : decode cX11_allTurned 71 = .ok (.goto (-58), 3) := by decide +kernel
theorem dX11_allTurned_74 : decode cX11_allTurned 74 = .ok (.aload_n 0, 1) := by decide +kernel
theorem dX11_allTurned_75 : decode cX11_allTurned 75 = .ok (.getfield 56, 3) := by decide +kernel
theorem dX11_allTurned_78 : decode cX11_allTurned 78 = .ok (.invokevirtual 373, 3) := by decide +kernel
theorem dX11_allTurned_81 : decode cX11_allTurned 81 = .ok (.aload_n 0, 1) := by decide +kernel
theorem dX11_allTurned_82 : decode cX11_allTurned 82 = .ok (.getfield 56, 3) := by decide +kernel
theorem dX11_allTurned_85 : decode cX11_allTurned 85 = .ok (.aload_n 0, 1) := by decide +kernel
theorem dX11_allTurned_86 : decode cX11_allTurned 86 = .ok (.getfield 10, 3) := by decide +kernel
theorem dX11_allTurned_89 : decode cX11_allTurned 89 = .ok (.invokevirtual 218, 3) := by decide +kernel
theorem dX11_allTurned_92 : decode cX11_allTurned 92 = .ok (.ireturn, 1) := by decide +kernel
theorem dX11_ranked_0 : decode cX11_ranked 0 = .ok (.aload_n 0, 1) := by decide +kernel
theorem dX11_ranked_1 : decode cX11_ranked 1 = .ok (.getfield 56, 3) := by decide +kernel
theorem dX11_ranked_4 : decode cX11_ranked 4 = .ok (.aload_n 0, 1) := by decide +kernel
theorem dX11_ranked_5 : decode cX11_ranked 5 = .ok (.getfield 10, 3) := by decide +kernel
theorem dX11_ranked_8 : decode cX11_ranked 8 = .ok (.invokevirtual 211, 3) := by decide +kernel
theorem dX11_ranked_11 : decode cX11_ranked 11 = .ok (.iload_n 1, 1) := by decide +kernel
theorem dX11_ranked_12 : decode cX11_ranked 12 = .ok (.ifCond .lt 26, 3) := by decide +kernel
theorem dX11_ranked_15 : decode cX11_ranked 15 = .ok (.iload_n 1, 1) := by decide +kernel
theorem dX11_ranked_16 : decode cX11_ranked 16 = .ok (.aload_n 0, 1) := by decide +kernel
theorem dX11_ranked_17 : decode cX11_ranked 17 = .ok (.getfield 56, 3) := by decide +kernel
theorem dX11_ranked_20 : decode cX11_ranked 20 = .ok (.getfield 376, 3) := by decide +kernel
theorem dX11_ranked_23 : decode cX11_ranked 23 = .ok (.if_icmp .ge 15, 3) := by decide +kernel
theorem dX11_ranked_26 : decode cX11_ranked 26 = .ok (.aload_n 0, 1) := by decide +kernel
theorem dX11_ranked_27 : decode cX11_ranked 27 = .ok (.getfield 56, 3) := by decide +kernel
theorem dX11_ranked_30 : decode cX11_ranked 30 = .ok (.getfield 377, 3) := by decide +kernel
theorem dX11_ranked_33 : decode cX11_ranked 33 = .ok (.iload_n 1, 1) := by decide +kernel
theorem dX11_ranked_34 : decode cX11_ranked 34 = .ok (.iaload, 1) := by decide +kernel
theorem dX11_ranked_35 : decode cX11_ranked 35 = .ok (.goto 4, 3) := by decide +kernel
theorem dX11_ranked_38 : decode cX11_ranked 38 = .ok (.iconst (-1), 1) := by decide +kernel
theorem dX11_ranked_39 : decode cX11_ranked 39 = .ok (.ireturn, 1) := by decide +kernel
theorem dX11_fit_0 : decode cX11_fit 0 = .ok (.iload_n 1, 1) := by decide +kernel
theorem dX11_fit_1 : decode cX11_fit 1 = .ok (.invokestatic 313, 3) := by decide +kernel
theorem dX11_fit_4 : decode cX11_fit 4 = .ok (.ifCond .eq 12, 3) := by decide +kernel
theorem dX11_fit_7 : decode cX11_fit 7 = .ok (.iload_n 2, 1) := by decide +kernel
theorem dX11_fit_8 : decode cX11_fit 8 = .ok (.ifCond .lt 8, 3) := by decide +kernel
theorem dX11_fit_11 : decode cX11_fit 11 = .ok (.iload_n 2, 1) := by decide +kernel
theorem dX11_fit_12 : decode cX11_fit 12 = .ok (.iconst 2, 1) := by decide +kernel
theorem dX11_fit_13 : decode cX11_fit 13 = .ok (.if_icmp .le 5, 3) := by decide +kernel
theorem dX11_fit_16 : decode cX11_fit 16 = .ok (.iconst (-1), 1) := by decide +kernel
theorem dX11_fit_17 : decode cX11_fit 17 = .ok (.ireturn, 1) := by decide +kernel
theorem dX11_fit_18 : decode cX11_fit 18 = .ok (.aload_n 0, 1) := by decide +kernel
theorem dX11_fit_19 : decode cX11_fit 19 = .ok (.getfield 63, 3) := by decide +kernel
theorem dX11_fit_22 : decode cX11_fit 22 = .ok (.aload_n 0, 1) := by decide +kernel
theorem dX11_fit_23 : decode cX11_fit 23 = .ok (.getfield 10, 3) := by decide +kernel
theorem dX11_fit_26 : decode cX11_fit 26 = .ok (.aload_n 0, 1) := by decide +kernel
theorem dX11_fit_27 : decode cX11_fit 27 = .ok (.getfield 56, 3) := by decide +kernel
theorem dX11_fit_30 : decode cX11_fit 30 = .ok (.iload_n 1, 1) := by decide +kernel
theorem dX11_fit_31 : decode cX11_fit 31 = .ok (.invokevirtual 380, 3) := by decide +kernel
theorem dX11_fit_34 : decode cX11_fit 34 = .ok (.aload_n 0, 1) := by decide +kernel
theorem dX11_fit_35 : decode cX11_fit 35 = .ok (.getfield 63, 3) := by decide +kernel
theorem dX11_fit_38 : decode cX11_fit 38 = .ok (.getfield 327, 3) := by decide +kernel
theorem dX11_fit_41 : decode cX11_fit 41 = .ok (.ifCond .ne 6, 3) := by decide +kernel
theorem dX11_fit_44 : decode cX11_fit 44 = .ok (.bipush (-2), 2) := by decide +kernel
theorem dX11_fit_46 : decode cX11_fit 46 = .ok (.ireturn, 1) := by decide +kernel
theorem dX11_fit_47 : decode cX11_fit 47 = .ok (.iload_n 2, 1) := by decide +kernel
theorem dX11_fit_48 : decode cX11_fit 48 = .ok (.ifCond .ne 11, 3) := by decide +kernel
theorem dX11_fit_51 : decode cX11_fit 51 = .ok (.aload_n 0, 1) := by decide +kernel
theorem dX11_fit_52 : decode cX11_fit 52 = .ok (.getfield 63, 3) := by decide +kernel
theorem dX11_fit_55 : decode cX11_fit 55 = .ok (.getfield 331, 3) := by decide +kernel
theorem dX11_fit_58 : decode cX11_fit 58 = .ok (.ireturn, 1) := by decide +kernel
theorem dX11_fit_59 : decode cX11_fit 59 = .ok (.iload_n 2, 1) := by decide +kernel
theorem dX11_fit_60 : decode cX11_fit 60 = .ok (.iconst 1, 1) := by decide +kernel
theorem dX11_fit_61 : decode cX11_fit 61 = .ok (.if_icmp .ne 13, 3) := by decide +kernel
theorem dX11_fit_64 : decode cX11_fit 64 = .ok (.aload_n 0, 1) := by decide +kernel
theorem dX11_fit_65 : decode cX11_fit 65 = .ok (.getfield 63, 3) := by decide +kernel
theorem dX11_fit_68 : decode cX11_fit 68 = .ok (.getfield 334, 3) := by decide +kernel
theorem dX11_fit_71 : decode cX11_fit 71 = .ok (.goto 10, 3) := by decide +kernel
theorem dX11_fit_74 : decode cX11_fit 74 = .ok (.aload_n 0, 1) := by decide +kernel
theorem dX11_fit_75 : decode cX11_fit 75 = .ok (.getfield 63, 3) := by decide +kernel
theorem dX11_fit_78 : decode cX11_fit 78 = .ok (.getfield 383, 3) := by decide +kernel
theorem dX11_fit_81 : decode cX11_fit 81 = .ok (.ireturn, 1) := by decide +kernel
theorem dX11_piece_0 : decode cX11_piece 0 = .ok (.aload_n 0, 1) := by decide +kernel
theorem dX11_piece_1 : decode cX11_piece 1 = .ok (.getfield 10, 3) := by decide +kernel
theorem dX11_piece_4 : decode cX11_piece 4 = .ok (.iload_n 1, 1) := by decide +kernel
theorem dX11_piece_5 : decode cX11_piece 5 = .ok (.invokevirtual 222, 3) := by decide +kernel
theorem dX11_piece_8 : decode cX11_piece 8 = .ok (.astore 4, 2) := by decide +kernel
theorem dX11_piece_10 : decode cX11_piece 10 = .ok (.aload 4, 2) := by decide +kernel
theorem dX11_piece_12 : decode cX11_piece 12 = .ok (.ifnull 23, 3) := by decide +kernel
theorem dX11_piece_15 : decode cX11_piece 15 = .ok (.iload_n 2, 1) := by decide +kernel
theorem dX11_piece_16 : decode cX11_piece 16 = .ok (.iconst 1, 1) := by decide +kernel
theorem dX11_piece_17 : decode cX11_piece 17 = .ok (.if_icmp .lt 18, 3) := by decide +kernel
theorem dX11_piece_20 : decode cX11_piece 20 = .ok (.iload_n 2, 1) := by decide +kernel
theorem dX11_piece_21 : decode cX11_piece 21 = .ok (.ldc 253, 2) := by decide +kernel
theorem dX11_piece_23 : decode cX11_piece 23 = .ok (.if_icmp .gt 12, 3) := by decide +kernel
theorem dX11_piece_26 : decode cX11_piece 26 = .ok (.iload_n 3, 1) := by decide +kernel
theorem dX11_piece_27 : decode cX11_piece 27 = .ok (.ifCond .lt 8, 3) := by decide +kernel
theorem dX11_piece_30 : decode cX11_piece 30 = .ok (.iload_n 3, 1) := by decide +kernel
theorem dX11_piece_31 : decode cX11_piece 31 = .ok (.iconst 5, 1) := by decide +kernel
theorem dX11_piece_32 : decode cX11_piece 32 = .ok (.if_icmp .lt 5, 3) := by decide +kernel
theorem dX11_piece_35 : decode cX11_piece 35 = .ok (.iconst (-1), 1) := by decide +kernel
theorem dX11_piece_36 : decode cX11_piece 36 = .ok (.ireturn, 1) := by decide +kernel
theorem dX11_piece_37 : decode cX11_piece 37 = .ok (.aload 4, 2) := by decide +kernel
theorem dX11_piece_39 : decode cX11_piece 39 = .ok (.iload_n 2, 1) := by decide +kernel
theorem dX11_piece_40 : decode cX11_piece 40 = .ok (.aload_n 0, 1) := by decide +kernel
theorem dX11_piece_41 : decode cX11_piece 41 = .ok (.getfield 10, 3) := by decide +kernel
theorem dX11_piece_44 : decode cX11_piece 44 = .ok (.getfield 135, 3) := by decide +kernel
theorem dX11_piece_47 : decode cX11_piece 47 = .ok (.iload_n 3, 1) := by decide +kernel
theorem dX11_piece_48 : decode cX11_piece 48 = .ok (.invokevirtual 365, 3) := by decide +kernel
theorem dX11_piece_51 : decode cX11_piece 51 = .ok (.ireturn, 1) := by decide +kernel
theorem dX11_lastDay_0 : decode cX11_lastDay 0 = .ok (.aload_n 0, 1) := by decide +kernel
theorem dX11_lastDay_1 : decode cX11_lastDay 1 = .ok (.getfield 10, 3) := by decide +kernel
theorem dX11_lastDay_4 : decode cX11_lastDay 4 = .ok (.iload_n 1, 1) := by decide +kernel
theorem dX11_lastDay_5 : decode cX11_lastDay 5 = .ok (.invokevirtual 222, 3) := by decide +kernel
theorem dX11_lastDay_8 : decode cX11_lastDay 8 = .ok (.ifnonnull 5, 3) := by decide +kernel
theorem dX11_lastDay_11 : decode cX11_lastDay 11 = .ok (.iconst (-1), 1) := by decide +kernel
theorem dX11_lastDay_12 : decode cX11_lastDay 12 = .ok (.ireturn, 1) := by decide +kernel
theorem dX11_lastDay_13 : decode cX11_lastDay 13 = .ok (.aload_n 0, 1) := by decide +kernel
theorem dX11_lastDay_14 : decode cX11_lastDay 14 = .ok (.getfield 56, 3) := by decide +kernel
theorem dX11_lastDay_17 : decode cX11_lastDay 17 = .ok (.aload_n 0, 1) := by decide +kernel
theorem dX11_lastDay_18 : decode cX11_lastDay 18 = .ok (.getfield 10, 3) := by decide +kernel
theorem dX11_lastDay_21 : decode cX11_lastDay 21 = .ok (.invokevirtual 211, 3) := by decide +kernel
theorem dX11_lastDay_24 : decode cX11_lastDay 24 = .ok (.aload_n 0, 1) := by decide +kernel
theorem dX11_lastDay_25 : decode cX11_lastDay 25 = .ok (.iload_n 1, 1) := by decide +kernel
theorem dX11_lastDay_26 : decode cX11_lastDay 26 = .ok (.iload_n 2, 1) := by decide +kernel
theorem dX11_lastDay_27 : decode cX11_lastDay 27 = .ok (.sipush 364, 3) := by decide +kernel
theorem dX11_lastDay_30 : decode cX11_lastDay 30 = .ok (.invokevirtual 386, 3) := by decide +kernel
theorem dX11_lastDay_33 : decode cX11_lastDay 33 = .ok (.aload_n 0, 1) := by decide +kernel
theorem dX11_lastDay_34 : decode cX11_lastDay 34 = .ok (.iload_n 1, 1) := by decide +kernel
theorem dX11_lastDay_35 : decode cX11_lastDay 35 = .ok (.iload_n 2, 1) := by decide +kernel
theorem dX11_lastDay_36 : decode cX11_lastDay 36 = .ok (.aload_n 0, 1) := by decide +kernel
theorem dX11_lastDay_37 : decode cX11_lastDay 37 = .ok (.getfield 10, 3) := by decide +kernel
theorem dX11_lastDay_40 : decode cX11_lastDay 40 = .ok (.getfield 144, 3) := by decide +kernel
theorem dX11_lastDay_43 : decode cX11_lastDay 43 = .ok (.iconst 1, 1) := by decide +kernel
theorem dX11_lastDay_44 : decode cX11_lastDay 44 = .ok (.isub, 1) := by decide +kernel
theorem dX11_lastDay_45 : decode cX11_lastDay 45 = .ok (.invokevirtual 386, 3) := by decide +kernel
theorem dX11_lastDay_48 : decode cX11_lastDay 48 = .ok (.invokestatic 358, 3) := by decide +kernel
theorem dX11_lastDay_51 : decode cX11_lastDay 51 = .ok (.ireturn, 1) := by decide +kernel
theorem dX11_cash_0 : decode cX11_cash 0 = .ok (.aload_n 0, 1) := by decide +kernel
theorem dX11_cash_1 : decode cX11_cash 1 = .ok (.getfield 10, 3) := by decide +kernel
theorem dX11_cash_4 : decode cX11_cash 4 = .ok (.iload_n 1, 1) := by decide +kernel
theorem dX11_cash_5 : decode cX11_cash 5 = .ok (.invokevirtual 168, 3) := by decide +kernel
theorem dX11_cash_8 : decode cX11_cash 8 = .ok (.astore_n 3, 1) := by decide +kernel
theorem dX11_cash_9 : decode cX11_cash 9 = .ok (.aload_n 3, 1) := by decide +kernel
theorem dX11_cash_10 : decode cX11_cash 10 = .ok (.ifnull 10, 3) := by decide +kernel
theorem dX11_cash_13 : decode cX11_cash 13 = .ok (.iload_n 2, 1) := by decide +kernel
theorem dX11_cash_14 : decode cX11_cash 14 = .ok (.invokestatic 158, 3) := by decide +kernel
theorem dX11_cash_17 : decode cX11_cash 17 = .ok (.ifCond .ne 7, 3) := by decide +kernel
theorem dX11_cash_20 : decode cX11_cash 20 = .ok (.iconst (-1), 1) := by decide +kernel
theorem dX11_cash_21 : decode cX11_cash 21 = .ok (.goto 8, 3) := by decide +kernel
theorem dX11_cash_24 : decode cX11_cash 24 = .ok (.aload_n 3, 1) := by decide +kernel
theorem dX11_cash_25 : decode cX11_cash 25 = .ok (.iload_n 2, 1) := by decide +kernel
theorem dX11_cash_26 : decode cX11_cash 26 = .ok (.invokevirtual 389, 3) := by decide +kernel
theorem dX11_cash_29 : decode cX11_cash 29 = .ok (.ireturn, 1) := by decide +kernel
theorem dX11_allCash_0 : decode cX11_allCash 0 = .ok (.iload_n 1, 1) := by decide +kernel
theorem dX11_allCash_1 : decode cX11_allCash 1 = .ok (.invokestatic 158, 3) := by decide +kernel
theorem dX11_allCash_4 : decode cX11_allCash 4 = .ok (.ifCond .eq 14, 3) := by decide +kernel
theorem dX11_allCash_7 : decode cX11_allCash 7 = .ok (.aload_n 0, 1) := by decide +kernel
theorem dX11_allCash_8 : decode cX11_allCash 8 = .ok (.getfield 10, 3) := by decide +kernel
theorem dX11_allCash_11 : decode cX11_allCash 11 = .ok (.iload_n 1, 1) := by decide +kernel
theorem dX11_allCash_12 : decode cX11_allCash 12 = .ok (.invokevirtual 392, 3) := by decide +kernel
theorem dX11_allCash_15 : decode cX11_allCash 15 = .ok (.goto 4, 3) := by decide +kernel
theorem dX11_allCash_18 : decode cX11_allCash 18 = .ok (.iconst (-1), 1) := by decide +kernel
theorem dX11_allCash_19 : decode cX11_allCash 19 = .ok (.ireturn, 1) := by decide +kernel
theorem dX11_tag_0 : decode cX11_tag 0 = .ok (.iload_n 1, 1) := by decide +kernel
theorem dX11_tag_1 : decode cX11_tag 1 = .ok (.iconst 1, 1) := by decide +kernel
theorem dX11_tag_2 : decode cX11_tag 2 = .ok (.if_icmp .lt 9, 3) := by decide +kernel
theorem dX11_tag_5 : decode cX11_tag 5 = .ok (.iload_n 1, 1) := by decide +kernel
theorem dX11_tag_6 : decode cX11_tag 6 = .ok (.bipush 40, 2) := by decide +kernel
theorem dX11_tag_8 : decode cX11_tag 8 = .ok (.if_icmp .le 5, 3) := by decide +kernel
theorem dX11_tag_11 : decode cX11_tag 11 = .ok (.iconst (-1), 1) := by decide +kernel
theorem dX11_tag_12 : decode cX11_tag 12 = .ok (.ireturn, 1) := by decide +kernel
theorem dX11_tag_13 : decode cX11_tag 13 = .ok (.aload_n 0, 1) := by decide +kernel
theorem dX11_tag_14 : decode cX11_tag 14 = .ok (.getfield 56, 3) := by decide +kernel
theorem dX11_tag_17 : decode cX11_tag 17 = .ok (.aload_n 0, 1) := by decide +kernel
theorem dX11_tag_18 : decode cX11_tag 18 = .ok (.getfield 10, 3) := by decide +kernel
theorem dX11_tag_21 : decode cX11_tag 21 = .ok (.invokevirtual 211, 3) := by decide +kernel
theorem dX11_tag_24 : decode cX11_tag 24 = .ok (.iload_n 1, 1) := by decide +kernel
theorem dX11_tag_25 : decode cX11_tag 25 = .ok (.aload_n 0, 1) := by decide +kernel
theorem dX11_tag_26 : decode cX11_tag 26 = .ok (.getfield 56, 3) := by decide +kernel
theorem dX11_tag_29 : decode cX11_tag 29 = .ok (.getfield 376, 3) := by decide +kernel
theorem dX11_tag_32 : decode cX11_tag 32 = .ok (.invokestatic 353, 3) := by decide +kernel
theorem dX11_tag_35 : decode cX11_tag 35 = .ok (.istore_n 2, 1) := by decide +kernel
theorem dX11_tag_36 : decode cX11_tag 36 = .ok (.iload_n 2, 1) := by decide +kernel
theorem dX11_tag_37 : decode cX11_tag 37 = .ok (.iconst 1, 1) := by decide +kernel
theorem dX11_tag_38 : decode cX11_tag 38 = .ok (.if_icmp .ge 6, 3) := by decide +kernel
theorem dX11_tag_41 : decode cX11_tag 41 = .ok (.bipush (-2), 2) := by decide +kernel
theorem dX11_tag_43 : decode cX11_tag 43 = .ok (.ireturn, 1) := by decide +kernel
theorem dX11_tag_44 : decode cX11_tag 44 = .ok (.iconst 0, 1) := by decide +kernel
theorem dX11_tag_45 : decode cX11_tag 45 = .ok (.istore_n 3, 1) := by decide +kernel
theorem dX11_tag_46 : decode cX11_tag 46 = .ok (.iconst 0, 1) := by decide +kernel
theorem dX11_tag_47 : decode cX11_tag 47 = .ok (.istore 4, 2) := by decide +kernel
theorem dX11_tag_49 : decode cX11_tag 49 = .ok (.iload 4, 2) := by decide +kernel
theorem dX11_tag_51 : decode cX11_tag 51 = .ok (.iload_n 2, 1) := by decide +kernel
theorem dX11_tag_52 : decode cX11_tag 52 = .ok (.if_icmp .ge 30, 3) := by decide +kernel
theorem dX11_tag_55 : decode cX11_tag 55 = .ok (.iload_n 3, 1) := by decide +kernel
theorem dX11_tag_56 : decode cX11_tag 56 = .ok (.aload_n 0, 1) := by decide +kernel
theorem dX11_tag_57 : decode cX11_tag 57 = .ok (.getfield 56, 3) := by decide +kernel
theorem dX11_tag_60 : decode cX11_tag 60 = .ok (.getfield 395, 3) := by decide +kernel
theorem dX11_tag_63 : decode cX11_tag 63 = .ok (.aload_n 0, 1) := by decide +kernel
theorem dX11_tag_64 : decode cX11_tag 64 = .ok (.getfield 56, 3) := by decide +kernel
theorem dX11_tag_67 : decode cX11_tag 67 = .ok (.getfield 377, 3) := by decide +kernel
theorem dX11_tag_70 : decode cX11_tag 70 = .ok (.iload 4, 2) := by decide +kernel
theorem dX11_tag_72 : decode cX11_tag 72 = .ok (.iaload, 1) := by decide +kernel
theorem dX11_tag_73 : decode cX11_tag 73 = .ok (.iaload, 1) := by decide +kernel
theorem dX11_tag_74 : decode cX11_tag 74 = .ok (.iadd, 1) := by decide +kernel
theorem dX11_tag_75 : decode cX11_tag 75 = .ok (.istore_n 3, 1) := by decide +kernel
theorem dX11_tag_76 : decode cX11_tag 76 = .ok (.iinc 4 1, 3) := by decide +kernel
theorem dX11_tag_79 : decode cX11_tag 79 = .ok (.goto (-30), 3) := by decide +kernel
theorem dX11_tag_82 : decode cX11_tag 82 = .ok (.iload_n 3, 1) := by decide +kernel
theorem dX11_tag_83 : decode cX11_tag 83 = .ok (.iload_n 2, 1) := by decide +kernel
theorem dX11_tag_84 : decode cX11_tag 84 = .ok (.idiv, 1) := by decide +kernel
theorem dX11_tag_85 : decode cX11_tag 85 = .ok (.ireturn, 1) := by decide +kernel
theorem dX11_counted_0 : decode cX11_counted 0 = .ok (.aload_n 0, 1) := by decide +kernel
theorem dX11_counted_1 : decode cX11_counted 1 = .ok (.getfield 56, 3) := by decide +kernel
theorem dX11_counted_4 : decode cX11_counted 4 = .ok (.aload_n 0, 1) := by decide +kernel
theorem dX11_counted_5 : decode cX11_counted 5 = .ok (.getfield 10, 3) := by decide +kernel
theorem dX11_counted_8 : decode cX11_counted 8 = .ok (.invokevirtual 211, 3) := by decide +kernel
theorem dX11_counted_11 : decode cX11_counted 11 = .ok (.aload_n 0, 1) := by decide +kernel
theorem dX11_counted_12 : decode cX11_counted 12 = .ok (.getfield 56, 3) := by decide +kernel
theorem dX11_counted_15 : decode cX11_counted 15 = .ok (.getfield 376, 3) := by decide +kernel
theorem dX11_counted_18 : decode cX11_counted 18 = .ok (.aload_n 0, 1) := by decide +kernel
theorem dX11_counted_19 : decode cX11_counted 19 = .ok (.getfield 10, 3) := by decide +kernel
theorem dX11_counted_22 : decode cX11_counted 22 = .ok (.aload_n 0, 1) := by decide +kernel
theorem dX11_counted_23 : decode cX11_counted 23 = .ok (.getfield 10, 3) := by decide +kernel
theorem dX11_counted_26 : decode cX11_counted 26 = .ok (.getfield 138, 3) := by decide +kernel
theorem dX11_counted_29 : decode cX11_counted 29 = .ok (.invokevirtual 397, 3) := by decide +kernel
theorem dX11_counted_32 : decode cX11_counted 32 = .ok (.invokestatic 353, 3) := by decide +kernel
theorem dX11_counted_35 : decode cX11_counted 35 = .ok (.istore_n 2, 1) := by decide +kernel
theorem dX11_counted_36 : decode cX11_counted 36 = .ok (.iload_n 1, 1) := by decide +kernel
theorem dX11_counted_37 : decode cX11_counted 37 = .ok (.lookupswitch 67 #[(0, 27), (1, 57)], 27) := by decide +kernel
theorem dX11_counted_64 : decode cX11_counted 64 = .ok (.iload_n 2, 1) := by decide +kernel
theorem dX11_counted_65 : decode cX11_counted 65 = .ok (.iconst 1, 1) := by decide +kernel
theorem dX11_counted_66 : decode cX11_counted 66 = .ok (.if_icmp .ge 8, 3) := by decide +kernel
theorem dX11_counted_69 : decode cX11_counted 69 = .ok (.bipush (-2), 2) := by decide +kernel
theorem dX11_counted_71 : decode cX11_counted 71 = .ok (.goto 22, 3) := by decide +kernel
theorem dX11_counted_74 : decode cX11_counted 74 = .ok (.aload_n 0, 1) := by decide +kernel
theorem dX11_counted_75 : decode cX11_counted 75 = .ok (.getfield 56, 3) := by decide +kernel
theorem dX11_counted_78 : decode cX11_counted 78 = .ok (.getfield 395, 3) := by decide +kernel
theorem dX11_counted_81 : decode cX11_counted 81 = .ok (.aload_n 0, 1) := by decide +kernel
theorem dX11_counted_82 : decode cX11_counted 82 = .ok (.getfield 56, 3) := by decide +kernel
theorem dX11_counted_85 : decode cX11_counted 85 = .ok (.getfield 377, 3) := by decide +kernel
theorem dX11_counted_88 : decode cX11_counted 88 = .ok (.iload_n 2, 1) := by decide +kernel
theorem dX11_counted_89 : decode cX11_counted 89 = .ok (.iconst 1, 1) := by decide +kernel
theorem dX11_counted_90 : decode cX11_counted 90 = .ok (.isub, 1) := by decide +kernel
theorem dX11_counted_91 : decode cX11_counted 91 = .ok (.iaload, 1) := by decide +kernel
theorem dX11_counted_92 : decode cX11_counted 92 = .ok (.iaload, 1) := by decide +kernel
theorem dX11_counted_93 : decode cX11_counted 93 = .ok (.ireturn, 1) := by decide +kernel
theorem dX11_counted_94 : decode cX11_counted 94 = .ok (.aload_n 0, 1) := by decide +kernel
theorem dX11_counted_95 : decode cX11_counted 95 = .ok (.getfield 56, 3) := by decide +kernel
theorem dX11_counted_98 : decode cX11_counted 98 = .ok (.getfield 376, 3) := by decide +kernel
theorem dX11_counted_101 : decode cX11_counted 101 = .ok (.iload_n 2, 1) := by decide +kernel
theorem dX11_counted_102 : decode cX11_counted 102 = .ok (.isub, 1) := by decide +kernel
theorem dX11_counted_103 : decode cX11_counted 103 = .ok (.ireturn, 1) := by decide +kernel
theorem dX11_counted_104 : decode cX11_counted 104 = .ok (.iconst (-1), 1) := by decide +kernel
theorem dX11_counted_105 : decode cX11_counted 105 = .ok (.ireturn, 1) := by decide +kernel
theorem dX11_share_0 : decode cX11_share 0 = .ok (.iload_n 1, 1) := by decide +kernel
theorem dX11_share_1 : decode cX11_share 1 = .ok (.invokestatic 158, 3) := by decide +kernel
theorem dX11_share_4 : decode cX11_share 4 = .ok (.ifCond .ne 5, 3) := by decide +kernel
theorem dX11_share_7 : decode cX11_share 7 = .ok (.iconst (-1), 1) := by decide +kernel
theorem dX11_share_8 : decode cX11_share 8 = .ok (.ireturn, 1) := by decide +kernel
theorem dX11_share_9 : decode cX11_share 9 = .ok (.aload_n 0, 1) := by decide +kernel
theorem dX11_share_10 : decode cX11_share 10 = .ok (.getfield 10, 3) := by decide +kernel
theorem dX11_share_13 : decode cX11_share 13 = .ok (.getfield 161, 3) := by decide +kernel
theorem dX11_share_16 : decode cX11_share 16 = .ok (.iload_n 1, 1) := by decide +kernel
theorem dX11_share_17 : decode cX11_share 17 = .ok (.iaload, 1) := by decide +kernel
theorem dX11_share_18 : decode cX11_share 18 = .ok (.istore_n 2, 1) := by decide +kernel
theorem dX11_share_19 : decode cX11_share 19 = .ok (.iload_n 2, 1) := by decide +kernel
theorem dX11_share_20 : decode cX11_share 20 = .ok (.iconst 1, 1) := by decide +kernel
theorem dX11_share_21 : decode cX11_share 21 = .ok (.if_icmp .ge 6, 3) := by decide +kernel
theorem dX11_share_24 : decode cX11_share 24 = .ok (.bipush (-2), 2) := by decide +kernel
theorem dX11_share_26 : decode cX11_share 26 = .ok (.ireturn, 1) := by decide +kernel
theorem dX11_share_27 : decode cX11_share 27 = .ok (.aload_n 0, 1) := by decide +kernel
theorem dX11_share_28 : decode cX11_share 28 = .ok (.getfield 10, 3) := by decide +kernel
theorem dX11_share_31 : decode cX11_share 31 = .ok (.getfield 165, 3) := by decide +kernel
theorem dX11_share_34 : decode cX11_share 34 = .ok (.iload_n 1, 1) := by decide +kernel
theorem dX11_share_35 : decode cX11_share 35 = .ok (.iaload, 1) := by decide +kernel
theorem dX11_share_36 : decode cX11_share 36 = .ok (.i2l, 1) := by decide +kernel
theorem dX11_share_37 : decode cX11_share 37 = .ok (.ldc2_w 400, 3) := by decide +kernel
theorem dX11_share_40 : decode cX11_share 40 = .ok (.lmul, 1) := by decide +kernel
theorem dX11_share_41 : decode cX11_share 41 = .ok (.iload_n 2, 1) := by decide +kernel
theorem dX11_share_42 : decode cX11_share 42 = .ok (.i2l, 1) := by decide +kernel
theorem dX11_share_43 : decode cX11_share 43 = .ok (.ldiv, 1) := by decide +kernel
theorem dX11_share_44 : decode cX11_share 44 = .ok (.ldc2_w 402, 3) := by decide +kernel
theorem dX11_share_47 : decode cX11_share 47 = .ok (.invokestatic 404, 3) := by decide +kernel
theorem dX11_share_50 : decode cX11_share 50 = .ok (.l2i, 1) := by decide +kernel
theorem dX11_share_51 : decode cX11_share 51 = .ok (.ireturn, 1) := by decide +kernel
theorem dX11_dearest_0 : decode cX11_dearest 0 = .ok (.iload_n 1, 1) := by decide +kernel
theorem dX11_dearest_1 : decode cX11_dearest 1 = .ok (.invokestatic 158, 3) := by decide +kernel
theorem dX11_dearest_4 : decode cX11_dearest 4 = .ok (.ifCond .ne 5, 3) := by decide +kernel
theorem dX11_dearest_7 : decode cX11_dearest 7 = .ok (.iconst (-1), 1) := by decide +kernel
theorem dX11_dearest_8 : decode cX11_dearest 8 = .ok (.ireturn, 1) := by decide +kernel
theorem dX11_dearest_9 : decode cX11_dearest 9 = .ok (.bipush (-2), 2) := by decide +kernel
theorem dX11_dearest_11 : decode cX11_dearest 11 = .ok (.istore_n 2, 1) := by decide +kernel
theorem dX11_dearest_12 : decode cX11_dearest 12 = .ok (.iconst (-1), 1) := by decide +kernel
theorem dX11_dearest_13 : decode cX11_dearest 13 = .ok (.istore_n 3, 1) := by decide +kernel
theorem dX11_dearest_14 : decode cX11_dearest 14 = .ok (.iconst 0, 1) := by decide +kernel
theorem dX11_dearest_15 : decode cX11_dearest 15 = .ok (.istore 4, 2) := by decide +kernel
theorem dX11_dearest_17 : decode cX11_dearest 17 = .ok (.iload 4, 2) := by decide +kernel
theorem dX11_dearest_19 : decode cX11_dearest 19 = .ok (.aload_n 0, 1) := by decide +kernel
theorem dX11_dearest_20 : decode cX11_dearest 20 = .ok (.getfield 10, 3) := by decide +kernel
theorem dX11_dearest_23 : decode cX11_dearest 23 = .ok (.getfield 153, 3) := by decide +kernel
theorem dX11_dearest_26 : decode cX11_dearest 26 = .ok (.if_icmp .ge 49, 3) := by decide +kernel
theorem dX11_dearest_29 : decode cX11_dearest 29 = .ok (.aload_n 0, 1) := by decide +kernel
theorem dX11_dearest_30 : decode cX11_dearest 30 = .ok (.getfield 10, 3) := by decide +kernel
theorem dX11_dearest_33 : decode cX11_dearest 33 = .ok (.getfield 407, 3) := by decide +kernel
theorem dX11_dearest_36 : decode cX11_dearest 36 = .ok (.iload 4, 2) := by decide +kernel
theorem dX11_dearest_38 : decode cX11_dearest 38 = .ok (.aaload, 1) := by decide +kernel
theorem dX11_dearest_39 : decode cX11_dearest 39 = .ok (.astore 5, 2) := by decide +kernel
theorem dX11_dearest_41 : decode cX11_dearest 41 = .ok (.aload 5, 2) := by decide +kernel
theorem dX11_dearest_43 : decode cX11_dearest 43 = .ok (.invokevirtual 192, 3) := by decide +kernel
theorem dX11_dearest_46 : decode cX11_dearest 46 = .ok (.ifCond .eq 23, 3) := by decide +kernel
theorem dX11_dearest_49 : decode cX11_dearest 49 = .ok (.aload 5, 2) := by decide +kernel
theorem dX11_dearest_51 : decode cX11_dearest 51 = .ok (.iload_n 1, 1) := by decide +kernel
theorem dX11_dearest_52 : decode cX11_dearest 52 = .ok (.invokevirtual 196, 3) := by decide +kernel
theorem dX11_dearest_55 : decode cX11_dearest 55 = .ok (.iload_n 3, 1) := by decide +kernel
theorem dX11_dearest_56 : decode cX11_dearest 56 = .ok (.if_icmp .le 13, 3) := by decide +kernel
theorem dX11_dearest_59 : decode cX11_dearest 59 = .ok (.iload 4, 2) := by decide +kernel
theorem dX11_dearest_61 : decode cX11_dearest 61 = .ok (.istore_n 2, 1) := by decide +kernel
theorem dX11_dearest_62 : decode cX11_dearest 62 = .ok (.aload 5, 2) := by decide +kernel
theorem dX11_dearest_64 : decode cX11_dearest 64 = .ok (.iload_n 1, 1) := by decide +kernel
theorem dX11_dearest_65 : decode cX11_dearest 65 = .ok (.invokevirtual 196, 3) := by decide +kernel
theorem dX11_dearest_68 : decode cX11_dearest 68 = .ok (.istore_n 3, 1) := by decide +kernel
theorem dX11_dearest_69 : decode cX11_dearest 69 = .ok (.iinc 4 1, 3) := by decide +kernel
theorem dX11_dearest_72 : decode cX11_dearest 72 = .ok (.goto (-55), 3) := by decide +kernel
theorem dX11_dearest_75 : decode cX11_dearest 75 = .ok (.iload_n 2, 1) := by decide +kernel
theorem dX11_dearest_76 : decode cX11_dearest 76 = .ok (.ireturn, 1) := by decide +kernel
theorem dX11_offer_0 : decode cX11_offer 0 = .ok (.aload_n 0, 1) := by decide +kernel
theorem dX11_offer_1 : decode cX11_offer 1 = .ok (.getfield 10, 3) := by decide +kernel
theorem dX11_offer_4 : decode cX11_offer 4 = .ok (.getfield 111, 3) := by decide +kernel
theorem dX11_offer_7 : decode cX11_offer 7 = .ok (.astore_n 3, 1) := by decide +kernel
theorem dX11_offer_8 : decode cX11_offer 8 = .ok (.aload_n 3, 1) := by decide +kernel
theorem dX11_offer_9 : decode cX11_offer 9 = .ok (.iload_n 1, 1) := by decide +kernel
theorem dX11_offer_10 : decode cX11_offer 10 = .ok (.invokevirtual 411, 3) := by decide +kernel
theorem dX11_offer_13 : decode cX11_offer 13 = .ok (.ifCond .ne 5, 3) := by decide +kernel
theorem dX11_offer_16 : decode cX11_offer 16 = .ok (.iconst (-1), 1) := by decide +kernel
theorem dX11_offer_17 : decode cX11_offer 17 = .ok (.ireturn, 1) := by decide +kernel
theorem dX11_offer_18 : decode cX11_offer 18 = .ok (.iload_n 2, 1) := by decide +kernel
theorem dX11_offer_19 : decode cX11_offer 19 = .ok (.tableswitch 67 0 4 #[33, 40, 47, 54, 61], 33) := by decide +kernel
theorem dX11_offer_52 : decode cX11_offer 52 = .ok (.aload_n 3, 1) := by decide +kernel
theorem dX11_offer_53 : decode cX11_offer 53 = .ok (.getfield 412, 3) := by decide +kernel
theorem dX11_offer_56 : decode cX11_offer 56 = .ok (.iload_n 1, 1) := by decide +kernel
theorem dX11_offer_57 : decode cX11_offer 57 = .ok (.iaload, 1) := by decide +kernel
theorem dX11_offer_58 : decode cX11_offer 58 = .ok (.ireturn, 1) := by decide +kernel
theorem dX11_offer_59 : decode cX11_offer 59 = .ok (.aload_n 3, 1) := by decide +kernel
theorem dX11_offer_60 : decode cX11_offer 60 = .ok (.getfield 415, 3) := by decide +kernel
theorem dX11_offer_63 : decode cX11_offer 63 = .ok (.iload_n 1, 1) := by decide +kernel
theorem dX11_offer_64 : decode cX11_offer 64 = .ok (.iaload, 1) := by decide +kernel
theorem dX11_offer_65 : decode cX11_offer 65 = .ok (.ireturn, 1) := by decide +kernel
theorem dX11_offer_66 : decode cX11_offer 66 = .ok (.aload_n 3, 1) := by decide +kernel
theorem dX11_offer_67 : decode cX11_offer 67 = .ok (.getfield 417, 3) := by decide +kernel
theorem dX11_offer_70 : decode cX11_offer 70 = .ok (.iload_n 1, 1) := by decide +kernel
theorem dX11_offer_71 : decode cX11_offer 71 = .ok (.iaload, 1) := by decide +kernel
theorem dX11_offer_72 : decode cX11_offer 72 = .ok (.ireturn, 1) := by decide +kernel
theorem dX11_offer_73 : decode cX11_offer 73 = .ok (.aload_n 3, 1) := by decide +kernel
theorem dX11_offer_74 : decode cX11_offer 74 = .ok (.getfield 420, 3) := by decide +kernel
theorem dX11_offer_77 : decode cX11_offer 77 = .ok (.iload_n 1, 1) := by decide +kernel
theorem dX11_offer_78 : decode cX11_offer 78 = .ok (.iaload, 1) := by decide +kernel
theorem dX11_offer_79 : decode cX11_offer 79 = .ok (.ireturn, 1) := by decide +kernel
theorem dX11_offer_80 : decode cX11_offer 80 = .ok (.aload_n 3, 1) := by decide +kernel
theorem dX11_offer_81 : decode cX11_offer 81 = .ok (.iload_n 1, 1) := by decide +kernel
theorem dX11_offer_82 : decode cX11_offer 82 = .ok (.invokevirtual 423, 3) := by decide +kernel
theorem dX11_offer_85 : decode cX11_offer 85 = .ok (.ireturn, 1) := by decide +kernel
theorem dX11_offer_86 : decode cX11_offer 86 = .ok (.iconst (-1), 1) := by decide +kernel
theorem dX11_offer_87 : decode cX11_offer 87 = .ok (.ireturn, 1) := by decide +kernel
theorem dX11_buys_0 : decode cX11_buys 0 = .ok (.iload_n 1, 1) := by decide +kernel
theorem dX11_buys_1 : decode cX11_buys 1 = .ok (.ifCond .lt 8, 3) := by decide +kernel
theorem dX11_buys_4 : decode cX11_buys 4 = .ok (.iload_n 1, 1) := by decide +kernel
theorem dX11_buys_5 : decode cX11_buys 5 = .ok (.iconst 2, 1) := by decide +kernel
theorem dX11_buys_6 : decode cX11_buys 6 = .ok (.if_icmp .le 5, 3) := by decide +kernel
theorem dX11_buys_9 : decode cX11_buys 9 = .ok (.iconst (-1), 1) := by decide +kernel
theorem dX11_buys_10 : decode cX11_buys 10 = .ok (.ireturn, 1) := by decide +kernel
theorem dX11_buys_11 : decode cX11_buys 11 = .ok (.aload_n 0, 1) := by decide +kernel
theorem dX11_buys_12 : decode cX11_buys 12 = .ok (.getfield 56, 3) := by decide +kernel
theorem dX11_buys_15 : decode cX11_buys 15 = .ok (.aload_n 0, 1) := by decide +kernel
theorem dX11_buys_16 : decode cX11_buys 16 = .ok (.getfield 10, 3) := by decide +kernel
theorem dX11_buys_19 : decode cX11_buys 19 = .ok (.invokevirtual 211, 3) := by decide +kernel
theorem dX11_buys_22 : decode cX11_buys 22 = .ok (.aload_n 0, 1) := by decide +kernel
theorem dX11_buys_23 : decode cX11_buys 23 = .ok (.getfield 63, 3) := by decide +kernel
theorem dX11_buys_26 : decode cX11_buys 26 = .ok (.aload_n 0, 1) := by decide +kernel
theorem dX11_buys_27 : decode cX11_buys 27 = .ok (.getfield 10, 3) := by decide +kernel
theorem dX11_buys_30 : decode cX11_buys 30 = .ok (.getfield 111, 3) := by decide +kernel
theorem dX11_buys_33 : decode cX11_buys 33 = .ok (.iconst 0, 1) := by decide +kernel
theorem dX11_buys_34 : decode cX11_buys 34 = .ok (.aload_n 0, 1) := by decide +kernel
theorem dX11_buys_35 : decode cX11_buys 35 = .ok (.getfield 56, 3) := by decide +kernel
theorem dX11_buys_38 : decode cX11_buys 38 = .ok (.aload_n 0, 1) := by decide +kernel
theorem dX11_buys_39 : decode cX11_buys 39 = .ok (.getfield 10, 3) := by decide +kernel
theorem dX11_buys_42 : decode cX11_buys 42 = .ok (.invokevirtual 218, 3) := by decide +kernel
theorem dX11_buys_45 : decode cX11_buys 45 = .ok (.invokestatic 358, 3) := by decide +kernel
theorem dX11_buys_48 : decode cX11_buys 48 = .ok (.invokevirtual 424, 3) := by decide +kernel
theorem dX11_buys_51 : decode cX11_buys 51 = .ok (.iload_n 1, 1) := by decide +kernel
theorem dX11_buys_52 : decode cX11_buys 52 = .ok (.ifCond .ne 11, 3) := by decide +kernel
theorem dX11_buys_55 : decode cX11_buys 55 = .ok (.aload_n 0, 1) := by decide +kernel
theorem dX11_buys_56 : decode cX11_buys 56 = .ok (.getfield 63, 3) := by decide +kernel
theorem dX11_buys_59 : decode cX11_buys 59 = .ok (.getfield 428, 3) := by decide +kernel
theorem dX11_buys_62 : decode cX11_buys 62 = .ok (.ireturn, 1) := by decide +kernel
theorem dX11_buys_63 : decode cX11_buys 63 = .ok (.iload_n 1, 1) := by decide +kernel
theorem dX11_buys_64 : decode cX11_buys 64 = .ok (.iconst 1, 1) := by decide +kernel
theorem dX11_buys_65 : decode cX11_buys 65 = .ok (.if_icmp .ne 13, 3) := by decide +kernel
theorem dX11_buys_68 : decode cX11_buys 68 = .ok (.aload_n 0, 1) := by decide +kernel
theorem dX11_buys_69 : decode cX11_buys 69 = .ok (.getfield 63, 3) := by decide +kernel
theorem dX11_buys_72 : decode cX11_buys 72 = .ok (.getfield 334, 3) := by decide +kernel
theorem dX11_buys_75 : decode cX11_buys 75 = .ok (.goto 10, 3) := by decide +kernel
theorem dX11_buys_78 : decode cX11_buys 78 = .ok (.aload_n 0, 1) := by decide +kernel
theorem dX11_buys_79 : decode cX11_buys 79 = .ok (.getfield 63, 3) := by decide +kernel
theorem dX11_buys_82 : decode cX11_buys 82 = .ok (.getfield 331, 3) := by decide +kernel
theorem dX11_buys_85 : decode cX11_buys 85 = .ok (.ireturn, 1) := by decide +kernel
theorem dX11_promised_0 : decode cX11_promised 0 = .ok (.aload_n 0, 1) := by decide +kernel
theorem dX11_promised_1 : decode cX11_promised 1 = .ok (.getfield 10, 3) := by decide +kernel
theorem dX11_promised_4 : decode cX11_promised 4 = .ok (.getfield 254, 3) := by decide +kernel
theorem dX11_promised_7 : decode cX11_promised 7 = .ok (.astore_n 3, 1) := by decide +kernel
theorem dX11_promised_8 : decode cX11_promised 8 = .ok (.aload_n 3, 1) := by decide +kernel
theorem dX11_promised_9 : decode cX11_promised 9 = .ok (.iload_n 1, 1) := by decide +kernel
theorem dX11_promised_10 : decode cX11_promised 10 = .ok (.invokevirtual 267, 3) := by decide +kernel
theorem dX11_promised_13 : decode cX11_promised 13 = .ok (.ifCond .ne 5, 3) := by decide +kernel
theorem dX11_promised_16 : decode cX11_promised 16 = .ok (.iconst (-1), 1) := by decide +kernel
theorem dX11_promised_17 : decode cX11_promised 17 = .ok (.ireturn, 1) := by decide +kernel
theorem dX11_promised_18 : decode cX11_promised 18 = .ok (.iload_n 2, 1) := by decide +kernel
theorem dX11_promised_19 : decode cX11_promised 19 = .ok (.tableswitch 84 0 4 #[33, 40, 47, 54, 69], 33) := by decide +kernel
theorem dX11_promised_52 : decode cX11_promised 52 = .ok (.aload_n 3, 1) := by decide +kernel
theorem dX11_promised_53 : decode cX11_promised 53 = .ok (.getfield 276, 3) := by decide +kernel
theorem dX11_promised_56 : decode cX11_promised 56 = .ok (.iload_n 1, 1) := by decide +kernel
theorem dX11_promised_57 : decode cX11_promised 57 = .ok (.iaload, 1) := by decide +kernel
theorem dX11_promised_58 : decode cX11_promised 58 = .ok (.ireturn, 1) := by decide +kernel
theorem dX11_promised_59 : decode cX11_promised 59 = .ok (.aload_n 3, 1) := by decide +kernel
theorem dX11_promised_60 : decode cX11_promised 60 = .ok (.getfield 274, 3) := by decide +kernel
theorem dX11_promised_63 : decode cX11_promised 63 = .ok (.iload_n 1, 1) := by decide +kernel
theorem dX11_promised_64 : decode cX11_promised 64 = .ok (.iaload, 1) := by decide +kernel
theorem dX11_promised_65 : decode cX11_promised 65 = .ok (.ireturn, 1) := by decide +kernel
theorem dX11_promised_66 : decode cX11_promised 66 = .ok (.aload_n 3, 1) := by decide +kernel
theorem dX11_promised_67 : decode cX11_promised 67 = .ok (.getfield 279, 3) := by decide +kernel
theorem dX11_promised_70 : decode cX11_promised 70 = .ok (.iload_n 1, 1) := by decide +kernel
theorem dX11_promised_71 : decode cX11_promised 71 = .ok (.iaload, 1) := by decide +kernel
theorem dX11_promised_72 : decode cX11_promised 72 = .ok (.ireturn, 1) := by decide +kernel
theorem dX11_promised_73 : decode cX11_promised 73 = .ok (.aload_n 3, 1) := by decide +kernel
theorem dX11_promised_74 : decode cX11_promised 74 = .ok (.getfield 430, 3) := by decide +kernel
theorem dX11_promised_77 : decode cX11_promised 77 = .ok (.iload_n 1, 1) := by decide +kernel
theorem dX11_promised_78 : decode cX11_promised 78 = .ok (.baload, 1) := by decide +kernel
theorem dX11_promised_79 : decode cX11_promised 79 = .ok (.ifCond .eq 7, 3) := by decide +kernel
theorem dX11_promised_82 : decode cX11_promised 82 = .ok (.iconst 1, 1) := by decide +kernel
theorem dX11_promised_83 : decode cX11_promised 83 = .ok (.goto 4, 3) := by decide +kernel
theorem dX11_promised_86 : decode cX11_promised 86 = .ok (.iconst 0, 1) := by decide +kernel
theorem dX11_promised_87 : decode cX11_promised 87 = .ok (.ireturn, 1) := by decide +kernel
theorem dX11_promised_88 : decode cX11_promised 88 = .ok (.aload_n 3, 1) := by decide +kernel
theorem dX11_promised_89 : decode cX11_promised 89 = .ok (.getfield 270, 3) := by decide +kernel
theorem dX11_promised_92 : decode cX11_promised 92 = .ok (.iload_n 1, 1) := by decide +kernel
theorem dX11_promised_93 : decode cX11_promised 93 = .ok (.baload, 1) := by decide +kernel
theorem dX11_promised_94 : decode cX11_promised 94 = .ok (.ifCond .eq 7, 3) := by decide +kernel
theorem dX11_promised_97 : decode cX11_promised 97 = .ok (.iconst 1, 1) := by decide +kernel
theorem dX11_promised_98 : decode cX11_promised 98 = .ok (.goto 4, 3) := by decide +kernel
theorem dX11_promised_101 : decode cX11_promised 101 = .ok (.iconst 0, 1) := by decide +kernel
theorem dX11_promised_102 : decode cX11_promised 102 = .ok (.ireturn, 1) := by decide +kernel
theorem dX11_promised_103 : decode cX11_promised 103 = .ok (.iconst (-1), 1) := by decide +kernel
theorem dX11_promised_104 : decode cX11_promised 104 = .ok (.ireturn, 1) := by decide +kernel
theorem dX11_floor_0 : decode cX11_floor 0 = .ok (.iload_n 1, 1) := by decide +kernel
theorem dX11_floor_1 : decode cX11_floor 1 = .ok (.invokestatic 158, 3) := by decide +kernel
theorem dX11_floor_4 : decode cX11_floor 4 = .ok (.ifCond .eq 12, 3) := by decide +kernel
theorem dX11_floor_7 : decode cX11_floor 7 = .ok (.iload_n 2, 1) := by decide +kernel
theorem dX11_floor_8 : decode cX11_floor 8 = .ok (.ifCond .lt 8, 3) := by decide +kernel
theorem dX11_floor_11 : decode cX11_floor 11 = .ok (.iload_n 2, 1) := by decide +kernel
theorem dX11_floor_12 : decode cX11_floor 12 = .ok (.iconst 2, 1) := by decide +kernel
theorem dX11_floor_13 : decode cX11_floor 13 = .ok (.if_icmp .le 5, 3) := by decide +kernel
theorem dX11_floor_16 : decode cX11_floor 16 = .ok (.iconst (-1), 1) := by decide +kernel
theorem dX11_floor_17 : decode cX11_floor 17 = .ok (.ireturn, 1) := by decide +kernel
theorem dX11_floor_18 : decode cX11_floor 18 = .ok (.iconst 0, 1) := by decide +kernel
theorem dX11_floor_19 : decode cX11_floor 19 = .ok (.istore_n 3, 1) := by decide +kernel
theorem dX11_floor_20 : decode cX11_floor 20 = .ok (.iconst 0, 1) := by decide +kernel
theorem dX11_floor_21 : decode cX11_floor 21 = .ok (.istore 4, 2) := by decide +kernel
theorem dX11_floor_23 : decode cX11_floor 23 = .ok (.iload_n 1, 1) := by decide +kernel
theorem dX11_floor_24 : decode cX11_floor 24 = .ok (.istore 5, 2) := by decide +kernel
theorem dX11_floor_26 : decode cX11_floor 26 = .ok (.iload 5, 2) := by decide +kernel
theorem dX11_floor_28 : decode cX11_floor 28 = .ok (.iload_n 1, 1) := by decide +kernel
theorem dX11_floor_29 : decode cX11_floor 29 = .ok (.iconst 3, 1) := by decide +kernel
theorem dX11_floor_30 : decode cX11_floor 30 = .ok (.iadd, 1) := by decide +kernel
theorem dX11_floor_31 : decode cX11_floor 31 = .ok (.bipush 19, 2) := by decide +kernel
theorem dX11_floor_33 : decode cX11_floor 33 = .ok (.invokestatic 353, 3) := by decide +kernel
theorem dX11_floor_36 : decode cX11_floor 36 = .ok (.if_icmp .gt 36, 3) := by decide +kernel
theorem dX11_floor_39 : decode cX11_floor 39 = .ok (.iload_n 3, 1) := by decide +kernel
theorem dX11_floor_40 : decode cX11_floor 40 = .ok (.aload_n 0, 1) := by decide +kernel
theorem dX11_floor_41 : decode cX11_floor 41 = .ok (.getfield 10, 3) := by decide +kernel
theorem dX11_floor_44 : decode cX11_floor 44 = .ok (.iload 5, 2) := by decide +kernel
theorem dX11_floor_46 : decode cX11_floor 46 = .ok (.invokevirtual 392, 3) := by decide +kernel
theorem dX11_floor_49 : decode cX11_floor 49 = .ok (.iadd, 1) := by decide +kernel
theorem dX11_floor_50 : decode cX11_floor 50 = .ok (.istore_n 3, 1) := by decide +kernel
theorem dX11_floor_51 : decode cX11_floor 51 = .ok (.iload 4, 2) := by decide +kernel
theorem dX11_floor_53 : decode cX11_floor 53 = .ok (.aload_n 0, 1) := by decide +kernel
theorem dX11_floor_54 : decode cX11_floor 54 = .ok (.getfield 10, 3) := by decide +kernel
theorem dX11_floor_57 : decode cX11_floor 57 = .ok (.getfield 161, 3) := by decide +kernel
theorem dX11_floor_60 : decode cX11_floor 60 = .ok (.iload 5, 2) := by decide +kernel
theorem dX11_floor_62 : decode cX11_floor 62 = .ok (.iaload, 1) := by decide +kernel
theorem dX11_floor_63 : decode cX11_floor 63 = .ok (.iadd, 1) := by decide +kernel
theorem dX11_floor_64 : decode cX11_floor 64 = .ok (.istore 4, 2) := by decide +kernel
theorem dX11_floor_66 : decode cX11_floor 66 = .ok (.iinc 5 1, 3) := by decide +kernel
theorem dX11_floor_69 : decode cX11_floor 69 = .ok (.goto (-43), 3) := by decide +kernel
theorem dX11_floor_72 : decode cX11_floor 72 = .ok (.iload 4, 2) := by decide +kernel
theorem dX11_floor_74 : decode cX11_floor 74 = .ok (.bipush 89, 2) := by decide +kernel
theorem dX11_floor_76 : decode cX11_floor 76 = .ok (.imul, 1) := by decide +kernel
theorem dX11_floor_77 : decode cX11_floor 77 = .ok (.bipush 100, 2) := by decide +kernel
theorem dX11_floor_79 : decode cX11_floor 79 = .ok (.idiv, 1) := by decide +kernel
theorem dX11_floor_80 : decode cX11_floor 80 = .ok (.istore 5, 2) := by decide +kernel
theorem dX11_floor_82 : decode cX11_floor 82 = .ok (.iload_n 2, 1) := by decide +kernel
theorem dX11_floor_83 : decode cX11_floor 83 = .ok (.ifCond .ne 5, 3) := by decide +kernel
theorem dX11_floor_86 : decode cX11_floor 86 = .ok (.iload_n 3, 1) := by decide +kernel
theorem dX11_floor_87 : decode cX11_floor 87 = .ok (.ireturn, 1) := by decide +kernel
theorem dX11_floor_88 : decode cX11_floor 88 = .ok (.iload_n 2, 1) := by decide +kernel
theorem dX11_floor_89 : decode cX11_floor 89 = .ok (.iconst 1, 1) := by decide +kernel
theorem dX11_floor_90 : decode cX11_floor 90 = .ok (.if_icmp .ne 8, 3) := by decide +kernel
theorem dX11_floor_93 : decode cX11_floor 93 = .ok (.iload 5, 2) := by decide +kernel
theorem dX11_floor_95 : decode cX11_floor 95 = .ok (.goto 11, 3) := by decide +kernel
theorem dX11_floor_98 : decode cX11_floor 98 = .ok (.iconst 0, 1) := by decide +kernel
theorem dX11_floor_99 : decode cX11_floor 99 = .ok (.iload 5, 2) := by decide +kernel
theorem dX11_floor_101 : decode cX11_floor 101 = .ok (.iload_n 3, 1) := by decide +kernel
theorem dX11_floor_102 : decode cX11_floor 102 = .ok (.isub, 1) := by decide +kernel
theorem dX11_floor_103 : decode cX11_floor 103 = .ok (.invokestatic 358, 3) := by decide +kernel
theorem dX11_floor_106 : decode cX11_floor 106 = .ok (.ireturn, 1) := by decide +kernel
theorem dX11_over_0 : decode cX11_over 0 = .ok (.iload_n 1, 1) := by decide +kernel
theorem dX11_over_1 : decode cX11_over 1 = .ok (.iconst 1, 1) := by decide +kernel
theorem dX11_over_2 : decode cX11_over 2 = .ok (.if_icmp .lt 9, 3) := by decide +kernel
theorem dX11_over_5 : decode cX11_over 5 = .ok (.iload_n 1, 1) := by decide +kernel
theorem dX11_over_6 : decode cX11_over 6 = .ok (.bipush 10, 2) := by decide +kernel
theorem dX11_over_8 : decode cX11_over 8 = .ok (.if_icmp .le 5, 3) := by decide +kernel
theorem dX11_over_11 : decode cX11_over 11 = .ok (.iconst (-1), 1) := by decide +kernel
theorem dX11_over_12 : decode cX11_over 12 = .ok (.ireturn, 1) := by decide +kernel
theorem dX11_over_13 : decode cX11_over 13 = .ok (.iconst 0, 1) := by decide +kernel
theorem dX11_over_14 : decode cX11_over 14 = .ok (.istore_n 2, 1) := by decide +kernel
theorem dX11_over_15 : decode cX11_over 15 = .ok (.iconst 0, 1) := by decide +kernel
theorem dX11_over_16 : decode cX11_over 16 = .ok (.istore_n 3, 1) := by decide +kernel
theorem dX11_over_17 : decode cX11_over 17 = .ok (.iload_n 3, 1) := by decide +kernel
theorem dX11_over_18 : decode cX11_over 18 = .ok (.iload_n 1, 1) := by decide +kernel
theorem dX11_over_19 : decode cX11_over 19 = .ok (.if_icmp .ge 58, 3) := by decide +kernel
theorem dX11_over_22 : decode cX11_over 22 = .ok (.aload_n 0, 1) := by decide +kernel
theorem dX11_over_23 : decode cX11_over 23 = .ok (.getfield 10, 3) := by decide +kernel
theorem dX11_over_26 : decode cX11_over 26 = .ok (.getfield 135, 3) := by decide +kernel
theorem dX11_over_29 : decode cX11_over 29 = .ok (.iconst 1, 1) := by decide +kernel
theorem dX11_over_30 : decode cX11_over 30 = .ok (.iadd, 1) := by decide +kernel
theorem dX11_over_31 : decode cX11_over 31 = .ok (.iload_n 3, 1) := by decide +kernel
theorem dX11_over_32 : decode cX11_over 32 = .ok (.iadd, 1) := by decide +kernel
theorem dX11_over_33 : decode cX11_over 33 = .ok (.istore 4, 2) := by decide +kernel
theorem dX11_over_35 : decode cX11_over 35 = .ok (.iload 4, 2) := by decide +kernel
theorem dX11_over_37 : decode cX11_over 37 = .ok (.invokestatic 158, 3) := by decide +kernel
theorem dX11_over_40 : decode cX11_over 40 = .ok (.ifCond .eq 31, 3) := by decide +kernel
theorem dX11_over_43 : decode cX11_over 43 = .ok (.aload_n 0, 1) := by decide +kernel
theorem dX11_over_44 : decode cX11_over 44 = .ok (.getfield 10, 3) := by decide +kernel
theorem dX11_over_47 : decode cX11_over 47 = .ok (.iload 4, 2) := by decide +kernel
theorem dX11_over_49 : decode cX11_over 49 = .ok (.invokevirtual 344, 3) := by decide +kernel
theorem dX11_over_52 : decode cX11_over 52 = .ok (.aload_n 0, 1) := by decide +kernel
theorem dX11_over_53 : decode cX11_over 53 = .ok (.getfield 10, 3) := by decide +kernel
theorem dX11_over_56 : decode cX11_over 56 = .ok (.getfield 161, 3) := by decide +kernel
theorem dX11_over_59 : decode cX11_over 59 = .ok (.iload 4, 2) := by decide +kernel
theorem dX11_over_61 : decode cX11_over 61 = .ok (.iaload, 1) := by decide +kernel
theorem dX11_over_62 : decode cX11_over 62 = .ok (.if_icmp .le 9, 3) := by decide +kernel
theorem dX11_over_65 : decode cX11_over 65 = .ok (.iload_n 2, 1) := by decide +kernel
theorem dX11_over_66 : decode cX11_over 66 = .ok (.iconst 1, 1) := by decide +kernel
theorem dX11_over_67 : decode cX11_over 67 = .ok (.iload_n 3, 1) := by decide +kernel
theorem dX11_over_68 : decode cX11_over 68 = .ok (.ishl, 1) := by decide +kernel
theorem dX11_over_69 : decode cX11_over 69 = .ok (.ior, 1) := by decide +kernel
theorem dX11_over_70 : decode cX11_over 70 = .ok (.istore_n 2, 1) := by decide +kernel
theorem dX11_over_71 : decode cX11_over 71 = .ok (.iinc 3 1, 3) := by decide +kernel
theorem dX11_over_74 : decode cX11_over 74 = .ok (.goto (-57), 3) := by decide +kernel
theorem dX11_over_77 : decode cX11_over 77 = .ok (.iload_n 2, 1) := by decide +kernel
theorem dX11_over_78 : decode cX11_over 78 = .ok (.ireturn, 1) := by decide +kernel
theorem dX11_undo_0 : decode cX11_undo 0 = .ok (.aload_n 0, 1) := by decide +kernel
theorem dX11_undo_1 : decode cX11_undo 1 = .ok (.getfield 26, 3) := by decide +kernel
theorem dX11_undo_4 : decode cX11_undo 4 = .ok (.invokevirtual 433, 3) := by decide +kernel
theorem dX11_undo_7 : decode cX11_undo 7 = .ok (.astore_n 1, 1) := by decide +kernel
theorem dX11_undo_8 : decode cX11_undo 8 = .ok (.aload_n 1, 1) := by decide +kernel
theorem dX11_undo_9 : decode cX11_undo 9 = .ok (.ifnonnull 5, 3) := by decide +kernel
theorem dX11_undo_12 : decode cX11_undo 12 = .ok (.iconst (-1), 1) := by decide +kernel
theorem dX11_undo_13 : decode cX11_undo 13 = .ok (.ireturn, 1) := by decide +kernel
theorem dX11_undo_14 : decode cX11_undo 14 = .ok (.aload_n 0, 1) := by decide +kernel
theorem dX11_undo_15 : decode cX11_undo 15 = .ok (.getfield 10, 3) := by decide +kernel
theorem dX11_undo_18 : decode cX11_undo 18 = .ok (.aload_n 1, 1) := by decide +kernel
theorem dX11_undo_19 : decode cX11_undo 19 = .ok (.invokevirtual 86, 3) := by decide +kernel
theorem dX11_undo_22 : decode cX11_undo 22 = .ok (.aload_n 0, 1) := by decide +kernel
theorem dX11_undo_23 : decode cX11_undo 23 = .ok (.getfield 26, 3) := by decide +kernel
theorem dX11_undo_26 : decode cX11_undo 26 = .ok (.getfield 157, 3) := by decide +kernel
theorem dX11_undo_29 : decode cX11_undo 29 = .ok (.ireturn, 1) := by decide +kernel
theorem dX11_keep_0 : decode cX11_keep 0 = .ok (.iload_n 1, 1) := by decide +kernel
theorem dX11_keep_1 : decode cX11_keep 1 = .ok (.ifCond .lt 8, 3) := by decide +kernel
theorem dX11_keep_4 : decode cX11_keep 4 = .ok (.iload_n 1, 1) := by decide +kernel
theorem dX11_keep_5 : decode cX11_keep 5 = .ok (.iconst 2, 1) := by decide +kernel
theorem dX11_keep_6 : decode cX11_keep 6 = .ok (.if_icmp .lt 5, 3) := by decide +kernel
theorem dX11_keep_9 : decode cX11_keep 9 = .ok (.iconst 0, 1) := by decide +kernel
theorem dX11_keep_10 : decode cX11_keep 10 = .ok (.ireturn, 1) := by decide +kernel
theorem dX11_keep_11 : decode cX11_keep 11 = .ok (.aload_n 0, 1) := by decide +kernel
theorem dX11_keep_12 : decode cX11_keep 12 = .ok (.getfield 19, 3) := by decide +kernel
theorem dX11_keep_15 : decode cX11_keep 15 = .ok (.iload_n 1, 1) := by decide +kernel
theorem dX11_keep_16 : decode cX11_keep 16 = .ok (.aaload, 1) := by decide +kernel
theorem dX11_keep_17 : decode cX11_keep 17 = .ok (.astore_n 2, 1) := by decide +kernel
theorem dX11_keep_18 : decode cX11_keep 18 = .ok (.aload_n 2, 1) := by decide +kernel
theorem dX11_keep_19 : decode cX11_keep 19 = .ok (.ifnonnull 18, 3) := by decide +kernel
theorem dX11_keep_22 : decode cX11_keep 22 = .ok (.new 7, 3) := by decide +kernel
theorem dX11_keep_25 : decode cX11_keep 25 = .ok (.dup, 1) := by decide +kernel
theorem dX11_keep_26 : decode cX11_keep 26 = .ok (.invokespecial 9, 3) := by decide +kernel
theorem dX11_keep_29 : decode cX11_keep 29 = .ok (.astore_n 2, 1) := by decide +kernel
theorem dX11_keep_30 : decode cX11_keep 30 = .ok (.aload_n 0, 1) := by decide +kernel
theorem dX11_keep_31 : decode cX11_keep 31 = .ok (.getfield 19, 3) := by decide +kernel
theorem dX11_keep_34 : decode cX11_keep 34 = .ok (.iload_n 1, 1) := by decide +kernel
theorem dX11_keep_35 : decode cX11_keep 35 = .ok (.aload_n 2, 1) := by decide +kernel
theorem dX11_keep_36 : decode cX11_keep 36 = .ok (.aastore, 1) := by decide +kernel
theorem dX11_keep_37 : decode cX11_keep 37 = .ok (.aload_n 2, 1) := by decide +kernel
theorem dX11_keep_38 : decode cX11_keep 38 = .ok (.aload_n 0, 1) := by decide +kernel
theorem dX11_keep_39 : decode cX11_keep 39 = .ok (.getfield 10, 3) := by decide +kernel
theorem dX11_keep_42 : decode cX11_keep 42 = .ok (.invokevirtual 86, 3) := by decide +kernel
theorem dX11_keep_45 : decode cX11_keep 45 = .ok (.iconst 1, 1) := by decide +kernel
theorem dX11_keep_46 : decode cX11_keep 46 = .ok (.ireturn, 1) := by decide +kernel
theorem dX11_restore_0 : decode cX11_restore 0 = .ok (.iload_n 1, 1) := by decide +kernel
theorem dX11_restore_1 : decode cX11_restore 1 = .ok (.ifCond .lt 8, 3) := by decide +kernel
theorem dX11_restore_4 : decode cX11_restore 4 = .ok (.iload_n 1, 1) := by decide +kernel
theorem dX11_restore_5 : decode cX11_restore 5 = .ok (.iconst 2, 1) := by decide +kernel
theorem dX11_restore_6 : decode cX11_restore 6 = .ok (.if_icmp .lt 5, 3) := by decide +kernel
theorem dX11_restore_9 : decode cX11_restore 9 = .ok (.iconst 0, 1) := by decide +kernel
theorem dX11_restore_10 : decode cX11_restore 10 = .ok (.ireturn, 1) := by decide +kernel
theorem dX11_restore_11 : decode cX11_restore 11 = .ok (.aload_n 0, 1) := by decide +kernel
theorem dX11_restore_12 : decode cX11_restore 12 = .ok (.getfield 19, 3) := by decide +kernel
theorem dX11_restore_15 : decode cX11_restore 15 = .ok (.iload_n 1, 1) := by decide +kernel
theorem dX11_restore_16 : decode cX11_restore 16 = .ok (.aaload, 1) := by decide +kernel
theorem dX11_restore_17 : decode cX11_restore 17 = .ok (.astore_n 2, 1) := by decide +kernel
theorem dX11_restore_18 : decode cX11_restore 18 = .ok (.aload_n 2, 1) := by decide +kernel
theorem dX11_restore_19 : decode cX11_restore 19 = .ok (.ifnonnull 5, 3) := by decide +kernel
theorem dX11_restore_22 : decode cX11_restore 22 = .ok (.iconst 0, 1) := by decide +kernel
theorem dX11_restore_23 : decode cX11_restore 23 = .ok (.ireturn, 1) := by decide +kernel
theorem dX11_restore_24 : decode cX11_restore 24 = .ok (.aload_n 0, 1) := by decide +kernel
theorem dX11_restore_25 : decode cX11_restore 25 = .ok (.getfield 26, 3) := by decide +kernel
theorem dX11_restore_28 : decode cX11_restore 28 = .ok (.aload_n 0, 1) := by decide +kernel
theorem dX11_restore_29 : decode cX11_restore 29 = .ok (.getfield 10, 3) := by decide +kernel
theorem dX11_restore_32 : decode cX11_restore 32 = .ok (.invokevirtual 247, 3) := by decide +kernel
theorem dX11_restore_35 : decode cX11_restore 35 = .ok (.aload_n 0, 1) := by decide +kernel
theorem dX11_restore_36 : decode cX11_restore 36 = .ok (.getfield 10, 3) := by decide +kernel
theorem dX11_restore_39 : decode cX11_restore 39 = .ok (.aload_n 2, 1) := by decide +kernel
theorem dX11_restore_40 : decode cX11_restore 40 = .ok (.invokevirtual 86, 3) := by decide +kernel
theorem dX11_restore_43 : decode cX11_restore 43 = .ok (.iconst 1, 1) := by decide +kernel
theorem dX11_restore_44 : decode cX11_restore 44 = .ok (.ireturn, 1) := by decide +kernel
theorem dX11_write_0 : decode cX11_write 0 = .ok (.aload_n 0, 1) := by decide +kernel
theorem dX11_write_1 : decode cX11_write 1 = .ok (.getfield 42, 3) := by decide +kernel
theorem dX11_write_4 : decode cX11_write 4 = .ok (.iconst 0, 1) := by decide +kernel
theorem dX11_write_5 : decode cX11_write 5 = .ok (.putfield 80, 3) := by decide +kernel
theorem dX11_write_8 : decode cX11_write 8 = .ok (.aload_n 0, 1) := by decide +kernel
theorem dX11_write_9 : decode cX11_write 9 = .ok (.getfield 42, 3) := by decide +kernel
theorem dX11_write_12 : decode cX11_write 12 = .ok (.bipush 100, 2) := by decide +kernel
theorem dX11_write_14 : decode cX11_write 14 = .ok (.invokevirtual 437, 3) := by decide +kernel
theorem dX11_write_17 : decode cX11_write 17 = .ok (.aload_n 0, 1) := by decide +kernel
theorem dX11_write_18 : decode cX11_write 18 = .ok (.getfield 42, 3) := by decide +kernel
theorem dX11_write_21 : decode cX11_write 21 = .ok (.aload_n 0, 1) := by decide +kernel
theorem dX11_write_22 : decode cX11_write 22 = .ok (.getfield 10, 3) := by decide +kernel
theorem dX11_write_25 : decode cX11_write 25 = .ok (.getfield 141, 3) := by decide +kernel
theorem dX11_write_28 : decode cX11_write 28 = .ok (.invokevirtual 439, 3) := by decide +kernel
theorem dX11_write_31 : decode cX11_write 31 = .ok (.aload_n 0, 1) := by decide +kernel
theorem dX11_write_32 : decode cX11_write 32 = .ok (.getfield 42, 3) := by decide +kernel
theorem dX11_write_35 : decode cX11_write 35 = .ok (.bipush 44, 2) := by decide +kernel
theorem dX11_write_37 : decode cX11_write 37 = .ok (.invokevirtual 437, 3) := by decide +kernel
theorem dX11_write_40 : decode cX11_write 40 = .ok (.aload_n 0, 1) := by decide +kernel
theorem dX11_write_41 : decode cX11_write 41 = .ok (.getfield 42, 3) := by decide +kernel
theorem dX11_write_44 : decode cX11_write 44 = .ok (.aload_n 0, 1) := by decide +kernel
theorem dX11_write_45 : decode cX11_write 45 = .ok (.getfield 10, 3) := by decide +kernel
theorem dX11_write_48 : decode cX11_write 48 = .ok (.getfield 144, 3) := by decide +kernel
theorem dX11_write_51 : decode cX11_write 51 = .ok (.invokevirtual 439, 3) := by decide +kernel
theorem dX11_write_54 : decode cX11_write 54 = .ok (.aload_n 0, 1) := by decide +kernel
theorem dX11_write_55 : decode cX11_write 55 = .ok (.getfield 42, 3) := by decide +kernel
theorem dX11_write_58 : decode cX11_write 58 = .ok (.bipush 44, 2) := by decide +kernel
theorem dX11_write_60 : decode cX11_write 60 = .ok (.invokevirtual 437, 3) := by decide +kernel
theorem dX11_write_63 : decode cX11_write 63 = .ok (.aload_n 0, 1) := by decide +kernel
theorem dX11_write_64 : decode cX11_write 64 = .ok (.getfield 42, 3) := by decide +kernel
theorem dX11_write_67 : decode cX11_write 67 = .ok (.aload_n 0, 1) := by decide +kernel
theorem dX11_write_68 : decode cX11_write 68 = .ok (.getfield 10, 3) := by decide +kernel
theorem dX11_write_71 : decode cX11_write 71 = .ok (.getfield 147, 3) := by decide +kernel
theorem dX11_write_74 : decode cX11_write 74 = .ok (.invokevirtual 439, 3) := by decide +kernel
theorem dX11_write_77 : decode cX11_write 77 = .ok (.aload_n 0, 1) := by decide +kernel
theorem dX11_write_78 : decode cX11_write 78 = .ok (.getfield 42, 3) := by decide +kernel
theorem dX11_write_81 : decode cX11_write 81 = .ok (.bipush 59, 2) := by decide +kernel
theorem dX11_write_83 : decode cX11_write 83 = .ok (.invokevirtual 437, 3) := by decide +kernel
theorem dX11_write_86 : decode cX11_write 86 = .ok (.aload_n 0, 1) := by decide +kernel
theorem dX11_write_87 : decode cX11_write 87 = .ok (.getfield 42, 3) := by decide +kernel
theorem dX11_write_90 : decode cX11_write 90 = .ok (.bipush 99, 2) := by decide +kernel
theorem dX11_write_92 : decode cX11_write 92 = .ok (.invokevirtual 437, 3) := by decide +kernel
theorem dX11_write_95 : decode cX11_write 95 = .ok (.aload_n 0, 1) := by decide +kernel
theorem dX11_write_96 : decode cX11_write 96 = .ok (.getfield 42, 3) := by decide +kernel
theorem dX11_write_99 : decode cX11_write 99 = .ok (.aload_n 0, 1) := by decide +kernel
theorem dX11_write_100 : decode cX11_write 100 = .ok (.getfield 10, 3) := by decide +kernel
theorem dX11_write_103 : decode cX11_write 103 = .ok (.getfield 150, 3) := by decide +kernel
theorem dX11_write_106 : decode cX11_write 106 = .ok (.invokevirtual 439, 3) := by decide +kernel
theorem dX11_write_109 : decode cX11_write 109 = .ok (.aload_n 0, 1) := by decide +kernel
theorem dX11_write_110 : decode cX11_write 110 = .ok (.getfield 42, 3) := by decide +kernel
theorem dX11_write_113 : decode cX11_write 113 = .ok (.bipush 59, 2) := by decide +kernel
theorem dX11_write_115 : decode cX11_write 115 = .ok (.invokevirtual 437, 3) := by decide +kernel
theorem dX11_write_118 : decode cX11_write 118 = .ok (.aload_n 0, 1) := by decide +kernel
theorem dX11_write_119 : decode cX11_write 119 = .ok (.getfield 42, 3) := by decide +kernel
theorem dX11_write_122 : decode cX11_write 122 = .ok (.bipush 109, 2) := by decide +kernel
theorem dX11_write_124 : decode cX11_write 124 = .ok (.invokevirtual 437, 3) := by decide +kernel
theorem dX11_write_127 : decode cX11_write 127 = .ok (.aload_n 0, 1) := by decide +kernel
theorem dX11_write_128 : decode cX11_write 128 = .ok (.getfield 42, 3) := by decide +kernel
theorem dX11_write_131 : decode cX11_write 131 = .ok (.aload_n 0, 1) := by decide +kernel
theorem dX11_write_132 : decode cX11_write 132 = .ok (.getfield 10, 3) := by decide +kernel
theorem dX11_write_135 : decode cX11_write 135 = .ok (.getfield 115, 3) := by decide +kernel
theorem dX11_write_138 : decode cX11_write 138 = .ok (.invokevirtual 439, 3) := by decide +kernel
theorem dX11_write_141 : decode cX11_write 141 = .ok (.aload_n 0, 1) := by decide +kernel
theorem dX11_write_142 : decode cX11_write 142 = .ok (.getfield 42, 3) := by decide +kernel
theorem dX11_write_145 : decode cX11_write 145 = .ok (.bipush 59, 2) := by decide +kernel
theorem dX11_write_147 : decode cX11_write 147 = .ok (.invokevirtual 437, 3) := by decide +kernel
theorem dX11_write_150 : decode cX11_write 150 = .ok (.iconst 0, 1) := by decide +kernel
theorem dX11_write_151 : decode cX11_write 151 = .ok (.istore_n 1, 1) := by decide +kernel
theorem dX11_write_152 : decode cX11_write 152 = .ok (.iload_n 1, 1) := by decide +kernel
theorem dX11_write_153 : decode cX11_write 153 = .ok (.bipush 20, 2) := by decide +kernel
theorem dX11_write_155 : decode cX11_write 155 = .ok (.if_icmp .ge 60, 3) := by decide +kernel
theorem dX11_write_158 : decode cX11_write 158 = .ok (.aload_n 0, 1) := by decide +kernel
theorem dX11_write_159 : decode cX11_write 159 = .ok (.getfield 42, 3) := by decide +kernel
theorem dX11_write_162 : decode cX11_write 162 = .ok (.bipush 108, 2) := by decide +kernel
theorem dX11_write_164 : decode cX11_write 164 = .ok (.invokevirtual 437, 3) := by decide +kernel
theorem dX11_write_167 : decode cX11_write 167 = .ok (.aload_n 0, 1) := by decide +kernel
theorem dX11_write_168 : decode cX11_write 168 = .ok (.getfield 42, 3) := by decide +kernel
theorem dX11_write_171 : decode cX11_write 171 = .ok (.iload_n 1, 1) := by decide +kernel
theorem dX11_write_172 : decode cX11_write 172 = .ok (.invokevirtual 439, 3) := by decide +kernel
theorem dX11_write_175 : decode cX11_write 175 = .ok (.aload_n 0, 1) := by decide +kernel
theorem dX11_write_176 : decode cX11_write 176 = .ok (.getfield 42, 3) := by decide +kernel
theorem dX11_write_179 : decode cX11_write 179 = .ok (.bipush 44, 2) := by decide +kernel
theorem dX11_write_181 : decode cX11_write 181 = .ok (.invokevirtual 437, 3) := by decide +kernel
theorem dX11_write_184 : decode cX11_write 184 = .ok (.aload_n 0, 1) := by decide +kernel
theorem dX11_write_185 : decode cX11_write 185 = .ok (.getfield 42, 3) := by decide +kernel
theorem dX11_write_188 : decode cX11_write 188 = .ok (.aload_n 0, 1) := by decide +kernel
theorem dX11_write_189 : decode cX11_write 189 = .ok (.getfield 10, 3) := by decide +kernel
theorem dX11_write_192 : decode cX11_write 192 = .ok (.getfield 161, 3) := by decide +kernel
theorem dX11_write_195 : decode cX11_write 195 = .ok (.iload_n 1, 1) := by decide +kernel
theorem dX11_write_196 : decode cX11_write 196 = .ok (.iaload, 1) := by decide +kernel
theorem dX11_write_197 : decode cX11_write 197 = .ok (.invokevirtual 439, 3) := by decide +kernel
theorem dX11_write_200 : decode cX11_write 200 = .ok (.aload_n 0, 1) := by decide +kernel
theorem dX11_write_201 : decode cX11_write 201 = .ok (.getfield 42, 3) := by decide +kernel
theorem dX11_write_204 : decode cX11_write 204 = .ok (.bipush 59, 2) := by decide +kernel
theorem dX11_write_206 : decode cX11_write 206 = .ok (.invokevirtual 437, 3) := by decide +kernel
theorem dX11_write_209 : decode cX11_write 209 = .ok (.iinc 1 1, 3) := by decide +kernel
theorem dX11_write_212 : decode cX11_write 212 = .ok (.goto (-60), 3) := by decide +kernel
theorem dX11_write_215 : decode cX11_write 215 = .ok (.aload_n 0, 1) := by decide +kernel
theorem dX11_write_216 : decode cX11_write 216 = .ok (.getfield 42, 3) := by decide +kernel
theorem dX11_write_219 : decode cX11_write 219 = .ok (.getfield 80, 3) := by decide +kernel
theorem dX11_write_222 : decode cX11_write 222 = .ok (.ireturn, 1) := by decide +kernel
theorem dX11_octet_0 : decode cX11_octet 0 = .ok (.aload_n 0, 1) := by decide +kernel
theorem dX11_octet_1 : decode cX11_octet 1 = .ok (.getfield 42, 3) := by decide +kernel
theorem dX11_octet_4 : decode cX11_octet 4 = .ok (.iload_n 1, 1) := by decide +kernel
theorem dX11_octet_5 : decode cX11_octet 5 = .ok (.invokevirtual 442, 3) := by decide +kernel
theorem dX11_octet_8 : decode cX11_octet 8 = .ok (.ireturn, 1) := by decide +kernel
theorem dX11_isYear_0 : decode cX11_isYear 0 = .ok (.iload_n 0, 1) := by decide +kernel
theorem dX11_isYear_1 : decode cX11_isYear 1 = .ok (.ifCond .lt 13, 3) := by decide +kernel
theorem dX11_isYear_4 : decode cX11_isYear 4 = .ok (.iload_n 0, 1) := by decide +kernel
theorem dX11_isYear_5 : decode cX11_isYear 5 = .ok (.bipush 20, 2) := by decide +kernel
theorem dX11_isYear_7 : decode cX11_isYear 7 = .ok (.if_icmp .ge 7, 3) := by decide +kernel
theorem dX11_isYear_10 : decode cX11_isYear 10 = .ok (.iconst 1, 1) := by decide +kernel
theorem dX11_isYear_11 : decode cX11_isYear 11 = .ok (.goto 4, 3) := by decide +kernel
theorem dX11_isYear_14 : decode cX11_isYear 14 = .ok (.iconst 0, 1) := by decide +kernel
theorem dX11_isYear_15 : decode cX11_isYear 15 = .ok (.ireturn, 1) := by decide +kernel
theorem dX11_isGoal_0 : decode cX11_isGoal 0 = .ok (.iload_n 0, 1) := by decide +kernel
theorem dX11_isGoal_1 : decode cX11_isGoal 1 = .ok (.ldc_w 445, 3) := by decide +kernel
theorem dX11_isGoal_4 : decode cX11_isGoal 4 = .ok (.if_icmp .lt 14, 3) := by decide +kernel
theorem dX11_isGoal_7 : decode cX11_isGoal 7 = .ok (.iload_n 0, 1) := by decide +kernel
theorem dX11_isGoal_8 : decode cX11_isGoal 8 = .ok (.ldc_w 446, 3) := by decide +kernel
theorem dX11_isGoal_11 : decode cX11_isGoal 11 = .ok (.if_icmp .gt 7, 3) := by decide +kernel
theorem dX11_isGoal_14 : decode cX11_isGoal 14 = .ok (.iconst 1, 1) := by decide +kernel
theorem dX11_isGoal_15 : decode cX11_isGoal 15 = .ok (.goto 4, 3) := by decide +kernel
theorem dX11_isGoal_18 : decode cX11_isGoal 18 = .ok (.iconst 0, 1) := by decide +kernel
theorem dX11_isGoal_19 : decode cX11_isGoal 19 = .ok (.ireturn, 1) := by decide +kernel
theorem dX11_takeDraft_0 : decode cX11_takeDraft 0 = .ok (.aload_n 0, 1) := by decide +kernel
theorem dX11_takeDraft_1 : decode cX11_takeDraft 1 = .ok (.aload_n 0, 1) := by decide +kernel
theorem dX11_takeDraft_2 : decode cX11_takeDraft 2 = .ok (.getfield 33, 3) := by decide +kernel
theorem dX11_takeDraft_5 : decode cX11_takeDraft 5 = .ok (.invokevirtual 126, 3) := by decide +kernel
theorem dX11_takeDraft_8 : decode cX11_takeDraft 8 = .ok (.putfield 67, 3) := by decide +kernel
theorem dX11_takeDraft_11 : decode cX11_takeDraft 11 = .ok (.aload_n 0, 1) := by decide +kernel
theorem dX11_takeDraft_12 : decode cX11_takeDraft 12 = .ok (.getfield 67, 3) := by decide +kernel
theorem dX11_takeDraft_15 : decode cX11_takeDraft 15 = .ok (.iconst (-1), 1) := by decide +kernel
theorem dX11_takeDraft_16 : decode cX11_takeDraft 16 = .ok (.if_icmp .eq 5, 3) := by decide +kernel
theorem dX11_takeDraft_19 : decode cX11_takeDraft 19 = .ok (.iconst (-1), 1) := by decide +kernel
theorem dX11_takeDraft_20 : decode cX11_takeDraft 20 = .ok (.ireturn, 1) := by decide +kernel
theorem dX11_takeDraft_21 : decode cX11_takeDraft 21 = .ok (.aload_n 0, 1) := by decide +kernel
theorem dX11_takeDraft_22 : decode cX11_takeDraft 22 = .ok (.getfield 26, 3) := by decide +kernel
theorem dX11_takeDraft_25 : decode cX11_takeDraft 25 = .ok (.aload_n 0, 1) := by decide +kernel
theorem dX11_takeDraft_26 : decode cX11_takeDraft 26 = .ok (.getfield 10, 3) := by decide +kernel
theorem dX11_takeDraft_29 : decode cX11_takeDraft 29 = .ok (.invokevirtual 247, 3) := by decide +kernel
theorem dX11_takeDraft_32 : decode cX11_takeDraft 32 = .ok (.aload_n 0, 1) := by decide +kernel
theorem dX11_takeDraft_33 : decode cX11_takeDraft 33 = .ok (.getfield 10, 3) := by decide +kernel
theorem dX11_takeDraft_36 : decode cX11_takeDraft 36 = .ok (.astore_n 2, 1) := by decide +kernel
theorem dX11_takeDraft_37 : decode cX11_takeDraft 37 = .ok (.aload_n 0, 1) := by decide +kernel
theorem dX11_takeDraft_38 : decode cX11_takeDraft 38 = .ok (.aload_n 0, 1) := by decide +kernel
theorem dX11_takeDraft_39 : decode cX11_takeDraft 39 = .ok (.getfield 16, 3) := by decide +kernel
theorem dX11_takeDraft_42 : decode cX11_takeDraft 42 = .ok (.putfield 10, 3) := by decide +kernel
theorem dX11_takeDraft_45 : decode cX11_takeDraft 45 = .ok (.aload_n 0, 1) := by decide +kernel
theorem dX11_takeDraft_46 : decode cX11_takeDraft 46 = .ok (.aload_n 2, 1) := by decide +kernel
theorem dX11_takeDraft_47 : decode cX11_takeDraft 47 = .ok (.putfield 16, 3) := by decide +kernel
theorem dX11_takeDraft_50 : decode cX11_takeDraft 50 = .ok (.iload_n 1, 1) := by decide +kernel
theorem dX11_takeDraft_51 : decode cX11_takeDraft 51 = .ok (.ireturn, 1) := by decide +kernel
theorem dX11_perform_0 : decode cX11_perform 0 = .ok (.aload_n 0, 1) := by decide +kernel
theorem dX11_perform_1 : decode cX11_perform 1 = .ok (.getfield 49, 3) := by decide +kernel
theorem dX11_perform_4 : decode cX11_perform 4 = .ok (.getfield 447, 3) := by decide +kernel
theorem dX11_perform_7 : decode cX11_perform 7 = .ok (.iload_n 1, 1) := by decide +kernel
theorem dX11_perform_8 : decode cX11_perform 8 = .ok (.iaload, 1) := by decide +kernel
theorem dX11_perform_9 : decode cX11_perform 9 = .ok (.istore_n 2, 1) := by decide +kernel
theorem dX11_perform_10 : decode cX11_perform 10 = .ok (.aload_n 0, 1) := by decide +kernel
theorem dX11_perform_11 : decode cX11_perform 11 = .ok (.getfield 49, 3) := by decide +kernel
theorem dX11_perform_14 : decode cX11_perform 14 = .ok (.getfield 449, 3) := by decide +kernel
theorem dX11_perform_17 : decode cX11_perform 17 = .ok (.iload_n 1, 1) := by decide +kernel
theorem dX11_perform_18 : decode cX11_perform 18 = .ok (.iaload, 1) := by decide +kernel
theorem dX11_perform_19 : decode cX11_perform 19 = .ok (.lookupswitch 70 #[(100, 61), (116, 43), (120, 33)], 33) := by decide +kernel
theorem dX11_perform_52 : decode cX11_perform 52 = .ok (.aload_n 0, 1) := by decide +kernel
theorem dX11_perform_53 : decode cX11_perform 53 = .ok (.iload_n 2, 1) := by decide +kernel
theorem dX11_perform_54 : decode cX11_perform 54 = .ok (.iconst 0, 1) := by decide +kernel
theorem dX11_perform_55 : decode cX11_perform 55 = .ok (.invokevirtual 240, 3) := by decide +kernel
theorem dX11_perform_58 : decode cX11_perform 58 = .ok (.pop, 1) := by decide +kernel
theorem dX11_perform_59 : decode cX11_perform 59 = .ok (.goto 35, 3) := by decide +kernel
theorem dX11_perform_62 : decode cX11_perform 62 = .ok (.aload_n 0, 1) := by decide +kernel
theorem dX11_perform_63 : decode cX11_perform 63 = .ok (.iload_n 2, 1) := by decide +kernel
theorem dX11_perform_64 : decode cX11_perform 64 = .ok (.aload_n 0, 1) := by decide +kernel
theorem dX11_perform_65 : decode cX11_perform 65 = .ok (.getfield 49, 3) := by decide +kernel
theorem dX11_perform_68 : decode cX11_perform 68 = .ok (.getfield 452, 3) := by decide +kernel
theorem dX11_perform_71 : decode cX11_perform 71 = .ok (.iload_n 1, 1) := by decide +kernel
theorem dX11_perform_72 : decode cX11_perform 72 = .ok (.iaload, 1) := by decide +kernel
theorem dX11_perform_73 : decode cX11_perform 73 = .ok (.invokevirtual 455, 3) := by decide +kernel
theorem dX11_perform_76 : decode cX11_perform 76 = .ok (.pop, 1) := by decide +kernel
theorem dX11_perform_77 : decode cX11_perform 77 = .ok (.goto 17, 3) := by decide +kernel
theorem dX11_perform_80 : decode cX11_perform 80 = .ok (.aload_n 0, 1) := by decide +kernel
theorem dX11_perform_81 : decode cX11_perform 81 = .ok (.iload_n 2, 1) := by decide +kernel
theorem dX11_perform_82 : decode cX11_perform 82 = .ok (.invokevirtual 458, 3) := by decide +kernel
theorem dX11_perform_85 : decode cX11_perform 85 = .ok (.pop, 1) := by decide +kernel
theorem dX11_perform_86 : decode cX11_perform 86 = .ok (.goto 8, 3) := by decide +kernel
theorem dX11_perform_89 : decode cX11_perform 89 = .ok (.aload_n 0, 1) := by decide +kernel
theorem dX11_perform_90 : decode cX11_perform 90 = .ok (.invokevirtual 461, 3) := by decide +kernel
theorem dX11_perform_93 : decode cX11_perform 93 = .ok (.pop, 1) := by decide +kernel
theorem dX11_perform_94 : decode cX11_perform 94 = .ok (.aload_n 0, 1) := by decide +kernel
theorem dX11_perform_95 : decode cX11_perform 95 = .ok (.getfield 74, 3) := by decide +kernel
theorem dX11_perform_98 : decode cX11_perform 98 = .ok (.ifCond .ne 7, 3) := by decide +kernel
theorem dX11_perform_101 : decode cX11_perform 101 = .ok (.iconst 1, 1) := by decide +kernel
theorem dX11_perform_102 : decode cX11_perform 102 = .ok (.goto 4, 3) := by decide +kernel
theorem dX11_perform_105 : decode cX11_perform 105 = .ok (.iconst 0, 1) := by decide +kernel
theorem dX11_perform_106 : decode cX11_perform 106 = .ok (.ireturn, 1) := by decide +kernel
theorem dX11_letGo_0 : decode cX11_letGo 0 = .ok (.aload_n 0, 1) := by decide +kernel
theorem dX11_letGo_1 : decode cX11_letGo 1 = .ok (.aload_n 0, 1) := by decide +kernel
theorem dX11_letGo_2 : decode cX11_letGo 2 = .ok (.getfield 10, 3) := by decide +kernel
theorem dX11_letGo_5 : decode cX11_letGo 5 = .ok (.iload_n 1, 1) := by decide +kernel
theorem dX11_letGo_6 : decode cX11_letGo 6 = .ok (.invokevirtual 463, 3) := by decide +kernel
theorem dX11_letGo_9 : decode cX11_letGo 9 = .ok (.putfield 74, 3) := by decide +kernel
theorem dX11_letGo_12 : decode cX11_letGo 12 = .ok (.aload_n 0, 1) := by decide +kernel
theorem dX11_letGo_13 : decode cX11_letGo 13 = .ok (.getfield 74, 3) := by decide +kernel
theorem dX11_letGo_16 : decode cX11_letGo 16 = .ok (.ifCond .eq 5, 3) := by decide +kernel
theorem dX11_letGo_19 : decode cX11_letGo 19 = .ok (.iconst (-1), 1) := by decide +kernel
theorem dX11_letGo_20 : decode cX11_letGo 20 = .ok (.ireturn, 1) := by decide +kernel
theorem dX11_letGo_21 : decode cX11_letGo 21 = .ok (.aload_n 0, 1) := by decide +kernel
theorem dX11_letGo_22 : decode cX11_letGo 22 = .ok (.getfield 26, 3) := by decide +kernel
theorem dX11_letGo_25 : decode cX11_letGo 25 = .ok (.aload_n 0, 1) := by decide +kernel
theorem dX11_letGo_26 : decode cX11_letGo 26 = .ok (.getfield 10, 3) := by decide +kernel
theorem dX11_letGo_29 : decode cX11_letGo 29 = .ok (.invokevirtual 247, 3) := by decide +kernel
theorem dX11_letGo_32 : decode cX11_letGo 32 = .ok (.aload_n 0, 1) := by decide +kernel
theorem dX11_letGo_33 : decode cX11_letGo 33 = .ok (.getfield 10, 3) := by decide +kernel
theorem dX11_letGo_36 : decode cX11_letGo 36 = .ok (.iload_n 1, 1) := by decide +kernel
theorem dX11_letGo_37 : decode cX11_letGo 37 = .ok (.iload_n 2, 1) := by decide +kernel
theorem dX11_letGo_38 : decode cX11_letGo 38 = .ok (.invokevirtual 319, 3) := by decide +kernel
theorem dX11_letGo_41 : decode cX11_letGo 41 = .ok (.aload_n 0, 1) := by decide +kernel
theorem dX11_letGo_42 : decode cX11_letGo 42 = .ok (.getfield 10, 3) := by decide +kernel
theorem dX11_letGo_45 : decode cX11_letGo 45 = .ok (.iconst 0, 1) := by decide +kernel
theorem dX11_letGo_46 : decode cX11_letGo 46 = .ok (.invokevirtual 154, 3) := by decide +kernel
theorem dX11_letGo_49 : decode cX11_letGo 49 = .ok (.ireturn, 1) := by decide +kernel
theorem dX11_countsInFull_0 : decode cX11_countsInFull 0 = .ok (.aload_n 0, 1) := by decide +kernel
theorem dX11_countsInFull_1 : decode cX11_countsInFull 1 = .ok (.getfield 56, 3) := by decide +kernel
theorem dX11_countsInFull_4 : decode cX11_countsInFull 4 = .ok (.aload_n 0, 1) := by decide +kernel
theorem dX11_countsInFull_5 : decode cX11_countsInFull 5 = .ok (.getfield 10, 3) := by decide +kernel
theorem dX11_countsInFull_8 : decode cX11_countsInFull 8 = .ok (.invokevirtual 211, 3) := by decide +kernel
theorem dX11_countsInFull_11 : decode cX11_countsInFull 11 = .ok (.aload_n 0, 1) := by decide +kernel
theorem dX11_countsInFull_12 : decode cX11_countsInFull 12 = .ok (.getfield 56, 3) := by decide +kernel
theorem dX11_countsInFull_15 : decode cX11_countsInFull 15 = .ok (.getfield 376, 3) := by decide +kernel
theorem dX11_countsInFull_18 : decode cX11_countsInFull 18 = .ok (.aload_n 0, 1) := by decide +kernel
theorem dX11_countsInFull_19 : decode cX11_countsInFull 19 = .ok (.getfield 10, 3) := by decide +kernel
theorem dX11_countsInFull_22 : decode cX11_countsInFull 22 = .ok (.aload_n 0, 1) := by decide +kernel
theorem dX11_countsInFull_23 : decode cX11_countsInFull 23 = .ok (.getfield 10, 3) := by decide +kernel
theorem dX11_countsInFull_26 : decode cX11_countsInFull 26 = .ok (.getfield 138, 3) := by decide +kernel
theorem dX11_countsInFull_29 : decode cX11_countsInFull 29 = .ok (.invokevirtual 397, 3) := by decide +kernel
theorem dX11_countsInFull_32 : decode cX11_countsInFull 32 = .ok (.invokestatic 353, 3) := by decide +kernel
theorem dX11_countsInFull_35 : decode cX11_countsInFull 35 = .ok (.istore_n 2, 1) := by decide +kernel
theorem dX11_countsInFull_36 : decode cX11_countsInFull 36 = .ok (.iconst 0, 1) := by decide +kernel
theorem dX11_countsInFull_37 : decode cX11_countsInFull 37 = .ok (.istore_n 3, 1) := by decide +kernel
theorem dX11_countsInFull_38 : decode cX11_countsInFull 38 = .ok (.iload_n 3, 1) := by decide +kernel
theorem dX11_countsInFull_39 : decode cX11_countsInFull 39 = .ok (.iload_n 2, 1) := by decide +kernel
theorem dX11_countsInFull_40 : decode cX11_countsInFull 40 = .ok (.if_icmp .ge 24, 3) := by decide +kernel
theorem dX11_countsInFull_43 : decode cX11_countsInFull 43 = .ok (.aload_n 0, 1) := by decide +kernel
theorem dX11_countsInFull_44 : decode cX11_countsInFull 44 = .ok (.getfield 56, 3) := by decide +kernel
theorem dX11_countsInFull_47 : decode cX11_countsInFull 47 = .ok (.getfield 377, 3) := by decide +kernel
theorem dX11_countsInFull_50 : decode cX11_countsInFull 50 = .ok (.iload_n 3, 1) := by decide +kernel
theorem dX11_countsInFull_51 : decode cX11_countsInFull 51 = .ok (.iaload, 1) := by decide +kernel
theorem dX11_countsInFull_52 : decode cX11_countsInFull 52 = .ok (.iload_n 1, 1) := by decide +kernel
theorem dX11_countsInFull_53 : decode cX11_countsInFull 53 = .ok (.if_icmp .ne 5, 3) := by decide +kernel
theorem dX11_countsInFull_56 : decode cX11_countsInFull 56 = .ok (.iconst 1, 1) := by decide +kernel
theorem dX11_countsInFull_57 : decode cX11_countsInFull 57 = .ok (.ireturn, 1) := by decide +kernel
theorem dX11_countsInFull_58 : decode cX11_countsInFull 58 = .ok (.iinc 3 1, 3) := by decide +kernel
theorem dX11_countsInFull_61 : decode cX11_countsInFull 61 = .ok (.goto (-23), 3) := by decide +kernel
theorem dX11_countsInFull_64 : decode cX11_countsInFull 64 = .ok (.iconst 0, 1) := by decide +kernel
theorem dX11_countsInFull_65 : decode cX11_countsInFull 65 = .ok (.ireturn, 1) := by decide +kernel
theorem dX11_dayIfSaved_0 : decode cX11_dayIfSaved 0 = .ok (.iload_n 3, 1) := by decide +kernel
theorem dX11_dayIfSaved_1 : decode cX11_dayIfSaved 1 = .ok (.aload_n 0, 1) := by decide +kernel
theorem dX11_dayIfSaved_2 : decode cX11_dayIfSaved 2 = .ok (.getfield 10, 3) := by decide +kernel
theorem dX11_dayIfSaved_5 : decode cX11_dayIfSaved 5 = .ok (.getfield 138, 3) := by decide +kernel
theorem dX11_dayIfSaved_8 : decode cX11_dayIfSaved 8 = .ok (.if_icmp .lt 24, 3) := by decide +kernel
theorem dX11_dayIfSaved_11 : decode cX11_dayIfSaved 11 = .ok (.aload_n 0, 1) := by decide +kernel
theorem dX11_dayIfSaved_12 : decode cX11_dayIfSaved 12 = .ok (.getfield 56, 3) := by decide +kernel
theorem dX11_dayIfSaved_15 : decode cX11_dayIfSaved 15 = .ok (.aload_n 0, 1) := by decide +kernel
theorem dX11_dayIfSaved_16 : decode cX11_dayIfSaved 16 = .ok (.getfield 10, 3) := by decide +kernel
theorem dX11_dayIfSaved_19 : decode cX11_dayIfSaved 19 = .ok (.iload_n 1, 1) := by decide +kernel
theorem dX11_dayIfSaved_20 : decode cX11_dayIfSaved 20 = .ok (.iload_n 3, 1) := by decide +kernel
theorem dX11_dayIfSaved_21 : decode cX11_dayIfSaved 21 = .ok (.invokevirtual 236, 3) := by decide +kernel
theorem dX11_dayIfSaved_24 : decode cX11_dayIfSaved 24 = .ok (.iload_n 2, 1) := by decide +kernel
theorem dX11_dayIfSaved_25 : decode cX11_dayIfSaved 25 = .ok (.if_icmp .lt 7, 3) := by decide +kernel
theorem dX11_dayIfSaved_28 : decode cX11_dayIfSaved 28 = .ok (.iload_n 3, 1) := by decide +kernel
theorem dX11_dayIfSaved_29 : decode cX11_dayIfSaved 29 = .ok (.goto 5, 3) := by decide +kernel
theorem dX11_dayIfSaved_32 : decode cX11_dayIfSaved 32 = .ok (.bipush (-2), 2) := by decide +kernel
theorem dX11_dayIfSaved_34 : decode cX11_dayIfSaved 34 = .ok (.ireturn, 1) := by decide +kernel
theorem dX11_savedByTurn_0 : decode cX11_savedByTurn 0 = .ok (.aload_n 0, 1) := by decide +kernel
theorem dX11_savedByTurn_1 : decode cX11_savedByTurn 1 = .ok (.getfield 56, 3) := by decide +kernel
theorem dX11_savedByTurn_4 : decode cX11_savedByTurn 4 = .ok (.aload_n 0, 1) := by decide +kernel
theorem dX11_savedByTurn_5 : decode cX11_savedByTurn 5 = .ok (.getfield 10, 3) := by decide +kernel
theorem dX11_savedByTurn_8 : decode cX11_savedByTurn 8 = .ok (.aload_n 0, 1) := by decide +kernel
theorem dX11_savedByTurn_9 : decode cX11_savedByTurn 9 = .ok (.getfield 10, 3) := by decide +kernel
theorem dX11_savedByTurn_12 : decode cX11_savedByTurn 12 = .ok (.getfield 138, 3) := by decide +kernel
theorem dX11_savedByTurn_15 : decode cX11_savedByTurn 15 = .ok (.invokevirtual 214, 3) := by decide +kernel
theorem dX11_savedByTurn_18 : decode cX11_savedByTurn 18 = .ok (.istore_n 3, 1) := by decide +kernel
theorem dX11_savedByTurn_19 : decode cX11_savedByTurn 19 = .ok (.aload_n 0, 1) := by decide +kernel
theorem dX11_savedByTurn_20 : decode cX11_savedByTurn 20 = .ok (.getfield 10, 3) := by decide +kernel
theorem dX11_savedByTurn_23 : decode cX11_savedByTurn 23 = .ok (.aload_n 2, 1) := by decide +kernel
theorem dX11_savedByTurn_24 : decode cX11_savedByTurn 24 = .ok (.invokevirtual 337, 3) := by decide +kernel
theorem dX11_savedByTurn_27 : decode cX11_savedByTurn 27 = .ok (.istore 4, 2) := by decide +kernel
theorem dX11_savedByTurn_29 : decode cX11_savedByTurn 29 = .ok (.aload_n 0, 1) := by decide +kernel
theorem dX11_savedByTurn_30 : decode cX11_savedByTurn 30 = .ok (.getfield 56, 3) := by decide +kernel
theorem dX11_savedByTurn_33 : decode cX11_savedByTurn 33 = .ok (.iload_n 1, 1) := by decide +kernel
theorem dX11_savedByTurn_34 : decode cX11_savedByTurn 34 = .ok (.iload 4, 2) := by decide +kernel
theorem dX11_savedByTurn_36 : decode cX11_savedByTurn 36 = .ok (.aload_n 2, 1) := by decide +kernel
theorem dX11_savedByTurn_37 : decode cX11_savedByTurn 37 = .ok (.iload 4, 2) := by decide +kernel
theorem dX11_savedByTurn_39 : decode cX11_savedByTurn 39 = .ok (.aload_n 0, 1) := by decide +kernel
theorem dX11_savedByTurn_40 : decode cX11_savedByTurn 40 = .ok (.getfield 10, 3) := by decide +kernel
theorem dX11_savedByTurn_43 : decode cX11_savedByTurn 43 = .ok (.getfield 135, 3) := by decide +kernel
theorem dX11_savedByTurn_46 : decode cX11_savedByTurn 46 = .ok (.iconst 0, 1) := by decide +kernel
theorem dX11_savedByTurn_47 : decode cX11_savedByTurn 47 = .ok (.invokevirtual 365, 3) := by decide +kernel
theorem dX11_savedByTurn_50 : decode cX11_savedByTurn 50 = .ok (.invokevirtual 369, 3) := by decide +kernel
theorem dX11_savedByTurn_53 : decode cX11_savedByTurn 53 = .ok (.aload_n 0, 1) := by decide +kernel
theorem dX11_savedByTurn_54 : decode cX11_savedByTurn 54 = .ok (.getfield 56, 3) := by decide +kernel
theorem dX11_savedByTurn_57 : decode cX11_savedByTurn 57 = .ok (.invokevirtual 373, 3) := by decide +kernel
theorem dX11_savedByTurn_60 : decode cX11_savedByTurn 60 = .ok (.iload_n 3, 1) := by decide +kernel
theorem dX11_savedByTurn_61 : decode cX11_savedByTurn 61 = .ok (.aload_n 0, 1) := by decide +kernel
theorem dX11_savedByTurn_62 : decode cX11_savedByTurn 62 = .ok (.getfield 56, 3) := by decide +kernel
theorem dX11_savedByTurn_65 : decode cX11_savedByTurn 65 = .ok (.aload_n 0, 1) := by decide +kernel
theorem dX11_savedByTurn_66 : decode cX11_savedByTurn 66 = .ok (.getfield 10, 3) := by decide +kernel
theorem dX11_savedByTurn_69 : decode cX11_savedByTurn 69 = .ok (.aload_n 0, 1) := by decide +kernel
theorem dX11_savedByTurn_70 : decode cX11_savedByTurn 70 = .ok (.getfield 10, 3) := by decide +kernel
theorem dX11_savedByTurn_73 : decode cX11_savedByTurn 73 = .ok (.getfield 138, 3) := by decide +kernel
theorem dX11_savedByTurn_76 : decode cX11_savedByTurn 76 = .ok (.invokevirtual 214, 3) := by decide +kernel
theorem dX11_savedByTurn_79 : decode cX11_savedByTurn 79 = .ok (.isub, 1) := by decide +kernel
theorem dX11_savedByTurn_80 : decode cX11_savedByTurn 80 = .ok (.ireturn, 1) := by decide +kernel
theorem dX11_policySum_0 : decode cX11_policySum 0 = .ok (.aload_n 0, 1) := by decide +kernel
theorem dX11_policySum_1 : decode cX11_policySum 1 = .ok (.getfield 10, 3) := by decide +kernel
theorem dX11_policySum_4 : decode cX11_policySum 4 = .ok (.iload_n 1, 1) := by decide +kernel
theorem dX11_policySum_5 : decode cX11_policySum 5 = .ok (.invokevirtual 222, 3) := by decide +kernel
theorem dX11_policySum_8 : decode cX11_policySum 8 = .ok (.astore_n 2, 1) := by decide +kernel
theorem dX11_policySum_9 : decode cX11_policySum 9 = .ok (.aload_n 2, 1) := by decide +kernel
theorem dX11_policySum_10 : decode cX11_policySum 10 = .ok (.ifnonnull 7, 3) := by decide +kernel
theorem dX11_policySum_13 : decode cX11_policySum 13 = .ok (.ldc2_w 307, 3) := by decide +kernel
theorem dX11_policySum_16 : decode cX11_policySum 16 = .ok (.lreturn, 1) := by decide +kernel
theorem dX11_policySum_17 : decode cX11_policySum 17 = .ok (.aload_n 0, 1) := by decide +kernel
theorem dX11_policySum_18 : decode cX11_policySum 18 = .ok (.getfield 10, 3) := by decide +kernel
theorem dX11_policySum_21 : decode cX11_policySum 21 = .ok (.getfield 101, 3) := by decide +kernel
theorem dX11_policySum_24 : decode cX11_policySum 24 = .ok (.astore_n 3, 1) := by decide +kernel
theorem dX11_policySum_25 : decode cX11_policySum 25 = .ok (.aload_n 3, 1) := by decide +kernel
theorem dX11_policySum_26 : decode cX11_policySum 26 = .ok (.bipush 104, 2) := by decide +kernel
theorem dX11_policySum_28 : decode cX11_policySum 28 = .ok (.aload_n 2, 1) := by decide +kernel
theorem dX11_policySum_29 : decode cX11_policySum 29 = .ok (.aload_n 0, 1) := by decide +kernel
theorem dX11_policySum_30 : decode cX11_policySum 30 = .ok (.getfield 10, 3) := by decide +kernel
theorem dX11_policySum_33 : decode cX11_policySum 33 = .ok (.getfield 135, 3) := by decide +kernel
theorem dX11_policySum_36 : decode cX11_policySum 36 = .ok (.invokevirtual 196, 3) := by decide +kernel
theorem dX11_policySum_39 : decode cX11_policySum 39 = .ok (.invokevirtual 466, 3) := by decide +kernel
theorem dX11_policySum_42 : decode cX11_policySum 42 = .ok (.aload_n 3, 1) := by decide +kernel
theorem dX11_policySum_43 : decode cX11_policySum 43 = .ok (.bipush 120, 2) := by decide +kernel
theorem dX11_policySum_45 : decode cX11_policySum 45 = .ok (.aload_n 0, 1) := by decide +kernel
theorem dX11_policySum_46 : decode cX11_policySum 46 = .ok (.getfield 10, 3) := by decide +kernel
theorem dX11_policySum_49 : decode cX11_policySum 49 = .ok (.aload_n 2, 1) := by decide +kernel
theorem dX11_policySum_50 : decode cX11_policySum 50 = .ok (.invokevirtual 232, 3) := by decide +kernel
theorem dX11_policySum_53 : decode cX11_policySum 53 = .ok (.invokevirtual 466, 3) := by decide +kernel
theorem dX11_policySum_56 : decode cX11_policySum 56 = .ok (.aload_n 3, 1) := by decide +kernel
theorem dX11_policySum_57 : decode cX11_policySum 57 = .ok (.bipush 115, 2) := by decide +kernel
theorem dX11_policySum_59 : decode cX11_policySum 59 = .ok (.aload_n 0, 1) := by decide +kernel
theorem dX11_policySum_60 : decode cX11_policySum 60 = .ok (.getfield 56, 3) := by decide +kernel
theorem dX11_policySum_63 : decode cX11_policySum 63 = .ok (.aload_n 0, 1) := by decide +kernel
theorem dX11_policySum_64 : decode cX11_policySum 64 = .ok (.getfield 10, 3) := by decide +kernel
theorem dX11_policySum_67 : decode cX11_policySum 67 = .ok (.iload_n 1, 1) := by decide +kernel
theorem dX11_policySum_68 : decode cX11_policySum 68 = .ok (.aload_n 0, 1) := by decide +kernel
theorem dX11_policySum_69 : decode cX11_policySum 69 = .ok (.getfield 10, 3) := by decide +kernel
theorem dX11_policySum_72 : decode cX11_policySum 72 = .ok (.getfield 138, 3) := by decide +kernel
theorem dX11_policySum_75 : decode cX11_policySum 75 = .ok (.invokevirtual 236, 3) := by decide +kernel
theorem dX11_policySum_78 : decode cX11_policySum 78 = .ok (.invokevirtual 466, 3) := by decide +kernel
theorem dX11_policySum_81 : decode cX11_policySum 81 = .ok (.aload_n 3, 1) := by decide +kernel
theorem dX11_policySum_82 : decode cX11_policySum 82 = .ok (.bipush 121, 2) := by decide +kernel
theorem dX11_policySum_84 : decode cX11_policySum 84 = .ok (.aload_n 2, 1) := by decide +kernel
theorem dX11_policySum_85 : decode cX11_policySum 85 = .ok (.aload_n 0, 1) := by decide +kernel
theorem dX11_policySum_86 : decode cX11_policySum 86 = .ok (.getfield 10, 3) := by decide +kernel
theorem dX11_policySum_89 : decode cX11_policySum 89 = .ok (.getfield 135, 3) := by decide +kernel
theorem dX11_policySum_92 : decode cX11_policySum 92 = .ok (.invokevirtual 189, 3) := by decide +kernel
theorem dX11_policySum_95 : decode cX11_policySum 95 = .ok (.invokevirtual 466, 3) := by decide +kernel
theorem dX11_policySum_98 : decode cX11_policySum 98 = .ok (.aload_n 3, 1) := by decide +kernel
theorem dX11_policySum_99 : decode cX11_policySum 99 = .ok (.bipush 98, 2) := by decide +kernel
theorem dX11_policySum_101 : decode cX11_policySum 101 = .ok (.aload_n 2, 1) := by decide +kernel
theorem dX11_policySum_102 : decode cX11_policySum 102 = .ok (.aload_n 0, 1) := by decide +kernel
theorem dX11_policySum_103 : decode cX11_policySum 103 = .ok (.getfield 10, 3) := by decide +kernel
theorem dX11_policySum_106 : decode cX11_policySum 106 = .ok (.getfield 135, 3) := by decide +kernel
theorem dX11_policySum_109 : decode cX11_policySum 109 = .ok (.invokevirtual 202, 3) := by decide +kernel
theorem dX11_policySum_112 : decode cX11_policySum 112 = .ok (.invokevirtual 466, 3) := by decide +kernel
theorem dX11_policySum_115 : decode cX11_policySum 115 = .ok (.aload_n 3, 1) := by decide +kernel
theorem dX11_policySum_116 : decode cX11_policySum 116 = .ok (.bipush 110, 2) := by decide +kernel
theorem dX11_policySum_118 : decode cX11_policySum 118 = .ok (.iload_n 1, 1) := by decide +kernel
theorem dX11_policySum_119 : decode cX11_policySum 119 = .ok (.invokevirtual 466, 3) := by decide +kernel
theorem dX11_policySum_122 : decode cX11_policySum 122 = .ok (.aload_n 3, 1) := by decide +kernel
theorem dX11_policySum_123 : decode cX11_policySum 123 = .ok (.invokevirtual 469, 3) := by decide +kernel
theorem dX11_policySum_126 : decode cX11_policySum 126 = .ok (.lreturn, 1) := by decide +kernel
theorem dX11_greatestByPolicy_0 : decode cX11_greatestByPolicy 0 = .ok (.iconst (-1), 1) := by decide +kernel
theorem dX11_greatestByPolicy_1 : decode cX11_greatestByPolicy 1 = .ok (.istore_n 1, 1) := by decide +kernel
theorem dX11_greatestByPolicy_2 : decode cX11_greatestByPolicy 2 = .ok (.lconst 0, 1) := by decide +kernel
theorem dX11_greatestByPolicy_3 : decode cX11_greatestByPolicy 3 = .ok (.lstore_n 2, 1) := by decide +kernel
theorem dX11_greatestByPolicy_4 : decode cX11_greatestByPolicy 4 = .ok (.iconst 0, 1) := by decide +kernel
theorem dX11_greatestByPolicy_5 : decode cX11_greatestByPolicy 5 = .ok (.istore 4, 2) := by decide +kernel
theorem dX11_greatestByPolicy_7 : decode cX11_greatestByPolicy 7 = .ok (.iload 4, 2) := by decide +kernel
theorem dX11_greatestByPolicy_9 : decode cX11_greatestByPolicy 9 = .ok (.aload_n 0, 1) := by decide +kernel
theorem dX11_greatestByPolicy_10 : decode cX11_greatestByPolicy 10 = .ok (.getfield 10, 3) := by decide +kernel
theorem dX11_greatestByPolicy_13 : decode cX11_greatestByPolicy 13 = .ok (.getfield 153, 3) := by decide +kernel
theorem dX11_greatestByPolicy_16 : decode cX11_greatestByPolicy 16 = .ok (.if_icmp .ge 73, 3) := by decide +kernel
theorem dX11_greatestByPolicy_19 : decode cX11_greatestByPolicy 19 = .ok (.aload_n 0, 1) := by decide +kernel
theorem dX11_greatestByPolicy_20 : decode cX11_greatestByPolicy 20 = .ok (.getfield 10, 3) := by decide +kernel
theorem dX11_greatestByPolicy_23 : decode cX11_greatestByPolicy 23 = .ok (.iload 4, 2) := by decide +kernel
theorem dX11_greatestByPolicy_25 : decode cX11_greatestByPolicy 25 = .ok (.invokevirtual 222, 3) := by decide +kernel
theorem dX11_greatestByPolicy_28 : decode cX11_greatestByPolicy 28 = .ok (.ifnull 55, 3) := by decide +kernel
theorem dX11_greatestByPolicy_31 : decode cX11_greatestByPolicy 31 = .ok (.aload_n 0, 1) := by decide +kernel
theorem dX11_greatestByPolicy_32 : decode cX11_greatestByPolicy 32 = .ok (.getfield 56, 3) := by decide +kernel
theorem dX11_greatestByPolicy_35 : decode cX11_greatestByPolicy 35 = .ok (.aload_n 0, 1) := by decide +kernel
theorem dX11_greatestByPolicy_36 : decode cX11_greatestByPolicy 36 = .ok (.getfield 10, 3) := by decide +kernel
theorem dX11_greatestByPolicy_39 : decode cX11_greatestByPolicy 39 = .ok (.iload 4, 2) := by decide +kernel
theorem dX11_greatestByPolicy_41 : decode cX11_greatestByPolicy 41 = .ok (.aload_n 0, 1) := by decide +kernel
theorem dX11_greatestByPolicy_42 : decode cX11_greatestByPolicy 42 = .ok (.getfield 10, 3) := by decide +kernel
theorem dX11_greatestByPolicy_45 : decode cX11_greatestByPolicy 45 = .ok (.getfield 138, 3) := by decide +kernel
theorem dX11_greatestByPolicy_48 : decode cX11_greatestByPolicy 48 = .ok (.invokevirtual 236, 3) := by decide +kernel
theorem dX11_greatestByPolicy_51 : decode cX11_greatestByPolicy 51 = .ok (.ifCond .gt 6, 3) := by decide +kernel
theorem dX11_greatestByPolicy_54 : decode cX11_greatestByPolicy 54 = .ok (.goto 29, 3) := by decide +kernel
theorem dX11_greatestByPolicy_57 : decode cX11_greatestByPolicy 57 = .ok (.aload_n 0, 1) := by decide +kernel
theorem dX11_greatestByPolicy_58 : decode cX11_greatestByPolicy 58 = .ok (.iload 4, 2) := by decide +kernel
theorem dX11_greatestByPolicy_60 : decode cX11_greatestByPolicy 60 = .ok (.invokevirtual 309, 3) := by decide +kernel
theorem dX11_greatestByPolicy_63 : decode cX11_greatestByPolicy 63 = .ok (.lstore 5, 2) := by decide +kernel
theorem dX11_greatestByPolicy_65 : decode cX11_greatestByPolicy 65 = .ok (.iload_n 1, 1) := by decide +kernel
theorem dX11_greatestByPolicy_66 : decode cX11_greatestByPolicy 66 = .ok (.iconst (-1), 1) := by decide +kernel
theorem dX11_greatestByPolicy_67 : decode cX11_greatestByPolicy 67 = .ok (.if_icmp .eq 10, 3) := by decide +kernel
theorem dX11_greatestByPolicy_70 : decode cX11_greatestByPolicy 70 = .ok (.lload 5, 2) := by decide +kernel
theorem dX11_greatestByPolicy_72 : decode cX11_greatestByPolicy 72 = .ok (.lload_n 2, 1) := by decide +kernel
theorem dX11_greatestByPolicy_73 : decode cX11_greatestByPolicy 73 = .ok (.lcmp, 1) := by decide +kernel
theorem dX11_greatestByPolicy_74 : decode cX11_greatestByPolicy 74 = .ok (.ifCond .le 9, 3) := by decide +kernel
theorem dX11_greatestByPolicy_77 : decode cX11_greatestByPolicy 77 = .ok (.iload 4, 2) := by decide +kernel
theorem dX11_greatestByPolicy_79 : decode cX11_greatestByPolicy 79 = .ok (.istore_n 1, 1) := by decide +kernel
theorem dX11_greatestByPolicy_80 : decode cX11_greatestByPolicy 80 = .ok (.lload 5, 2) := by decide +kernel
theorem dX11_greatestByPolicy_82 : decode cX11_greatestByPolicy 82 = .ok (.lstore_n 2, 1) := by decide +kernel
theorem dX11_greatestByPolicy_83 : decode cX11_greatestByPolicy 83 = .ok (.iinc 4 1, 3) := by decide +kernel
theorem dX11_greatestByPolicy_86 : decode cX11_greatestByPolicy 86 = .ok (.goto (-79), 3) := by decide +kernel
theorem dX11_greatestByPolicy_89 : decode cX11_greatestByPolicy 89 = .ok (.iload_n 1, 1) := by decide +kernel
theorem dX11_greatestByPolicy_90 : decode cX11_greatestByPolicy 90 = .ok (.ireturn, 1) := by decide +kernel
