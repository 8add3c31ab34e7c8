theorem dX12_result_18 : decode cX12_result 18 = .ok (.aload_n 0, 1) := by decide +kernel
theorem dX12_result_19 : decode cX12_result 19 = .ok (.iload_n 2, 1) := by decide +kernel
theorem dX12_result_20 : decode cX12_result 20 = .ok (.ifCond .lt 22, 3) := by decide +kernel
theorem dX12_result_23 : decode cX12_result 23 = .ok (.iload_n 2, 1) := by decide +kernel
theorem dX12_result_24 : decode cX12_result 24 = .ok (.iconst 1, 1) := by decide +kernel
theorem dX12_result_25 : decode cX12_result 25 = .ok (.if_icmp .gt 17, 3) := by decide +kernel
theorem dX12_result_28 : decode cX12_result 28 = .ok (.iload_n 3, 1) := by decide +kernel
theorem dX12_result_29 : decode cX12_result 29 = .ok (.ifCond .lt 13, 3) := by decide +kernel
theorem dX12_result_32 : decode cX12_result 32 = .ok (.iload_n 3, 1) := by decide +kernel
theorem dX12_result_33 : decode cX12_result 33 = .ok (.bipush 25, 2) := by decide +kernel
theorem dX12_result_35 : decode cX12_result 35 = .ok (.if_icmp .gt 7, 3) := by decide +kernel
theorem dX12_result_38 : decode cX12_result 38 = .ok (.iconst 1, 1) := by decide +kernel
theorem dX12_result_39 : decode cX12_result 39 = .ok (.goto 4, 3) := by decide +kernel
theorem dX12_result_42 : decode cX12_result 42 = .ok (.iconst 0, 1) := by decide +kernel
theorem dX12_result_43 : decode cX12_result 43 = .ok (.iconst 2, 1) := by decide +kernel
theorem dX12_result_44 : decode cX12_result 44 = .ok (.invokevirtual 155, 3) := by decide +kernel
theorem dX12_result_47 : decode cX12_result 47 = .ok (.ifCond .ne 5, 3) := by decide +kernel
theorem dX12_result_50 : decode cX12_result 50 = .ok (.iconst 0, 1) := by decide +kernel
theorem dX12_result_51 : decode cX12_result 51 = .ok (.ireturn, 1) := by decide +kernel
theorem dX12_result_52 : decode cX12_result 52 = .ok (.aload_n 0, 1) := by decide +kernel
theorem dX12_result_53 : decode cX12_result 53 = .ok (.getfield 33, 3) := by decide +kernel
theorem dX12_result_56 : decode cX12_result 56 = .ok (.bipush 52, 2) := by decide +kernel
theorem dX12_result_58 : decode cX12_result 58 = .ok (.aload_n 0, 1) := by decide +kernel
theorem dX12_result_59 : decode cX12_result 59 = .ok (.getfield 39, 3) := by decide +kernel
theorem dX12_result_62 : decode cX12_result 62 = .ok (.iload_n 1, 1) := by decide +kernel
theorem dX12_result_63 : decode cX12_result 63 = .ok (.iaload, 1) := by decide +kernel
theorem dX12_result_64 : decode cX12_result 64 = .ok (.imul, 1) := by decide +kernel
theorem dX12_result_65 : decode cX12_result 65 = .ok (.bipush 26, 2) := by decide +kernel
theorem dX12_result_67 : decode cX12_result 67 = .ok (.iload_n 2, 1) := by decide +kernel
theorem dX12_result_68 : decode cX12_result 68 = .ok (.imul, 1) := by decide +kernel
theorem dX12_result_69 : decode cX12_result 69 = .ok (.iadd, 1) := by decide +kernel
theorem dX12_result_70 : decode cX12_result 70 = .ok (.iload_n 3, 1) := by decide +kernel
theorem dX12_result_71 : decode cX12_result 71 = .ok (.iadd, 1) := by decide +kernel
theorem dX12_result_72 : decode cX12_result 72 = .ok (.iaload, 1) := by decide +kernel
theorem dX12_result_73 : decode cX12_result 73 = .ok (.ireturn, 1) := by decide +kernel
theorem dX12_way_0 : decode cX12_way 0 = .ok (.aload_n 0, 1) := by decide +kernel
theorem dX12_way_1 : decode cX12_way 1 = .ok (.iconst 0, 1) := by decide +kernel
theorem dX12_way_2 : decode cX12_way 2 = .ok (.putfield 1, 3) := by decide +kernel
theorem dX12_way_5 : decode cX12_way 5 = .ok (.aload_n 0, 1) := by decide +kernel
theorem dX12_way_6 : decode cX12_way 6 = .ok (.aload_n 0, 1) := by decide +kernel
theorem dX12_way_7 : decode cX12_way 7 = .ok (.iload_n 1, 1) := by decide +kernel
theorem dX12_way_8 : decode cX12_way 8 = .ok (.invokevirtual 246, 3) := by decide +kernel
theorem dX12_way_11 : decode cX12_way 11 = .ok (.iconst 1, 1) := by decide +kernel
theorem dX12_way_12 : decode cX12_way 12 = .ok (.invokevirtual 155, 3) := by decide +kernel
theorem dX12_way_15 : decode cX12_way 15 = .ok (.ifCond .ne 5, 3) := by decide +kernel
theorem dX12_way_18 : decode cX12_way 18 = .ok (.iconst 0, 1) := by decide +kernel
theorem dX12_way_19 : decode cX12_way 19 = .ok (.ireturn, 1) := by decide +kernel
theorem dX12_way_20 : decode cX12_way 20 = .ok (.iload_n 2, 1) := by decide +kernel
theorem dX12_way_21 : decode cX12_way 21 = .ok (.ifCond .lt 29, 3) := by decide +kernel
theorem dX12_way_24 : decode cX12_way 24 = .ok (.iload_n 2, 1) := by decide +kernel
theorem dX12_way_25 : decode cX12_way 25 = .ok (.aload_n 0, 1) := by decide +kernel
theorem dX12_way_26 : decode cX12_way 26 = .ok (.getfield 224, 3) := by decide +kernel
theorem dX12_way_29 : decode cX12_way 29 = .ok (.if_icmp .ge 21, 3) := by decide +kernel
theorem dX12_way_32 : decode cX12_way 32 = .ok (.aload_n 0, 1) := by decide +kernel
theorem dX12_way_33 : decode cX12_way 33 = .ok (.getfield 36, 3) := by decide +kernel
theorem dX12_way_36 : decode cX12_way 36 = .ok (.iconst 4, 1) := by decide +kernel
theorem dX12_way_37 : decode cX12_way 37 = .ok (.aload_n 0, 1) := by decide +kernel
theorem dX12_way_38 : decode cX12_way 38 = .ok (.getfield 39, 3) := by decide +kernel
theorem dX12_way_41 : decode cX12_way 41 = .ok (.iload_n 1, 1) := by decide +kernel
theorem dX12_way_42 : decode cX12_way 42 = .ok (.iaload, 1) := by decide +kernel
theorem dX12_way_43 : decode cX12_way 43 = .ok (.imul, 1) := by decide +kernel
theorem dX12_way_44 : decode cX12_way 44 = .ok (.iload_n 2, 1) := by decide +kernel
theorem dX12_way_45 : decode cX12_way 45 = .ok (.iadd, 1) := by decide +kernel
theorem dX12_way_46 : decode cX12_way 46 = .ok (.iaload, 1) := by decide +kernel
theorem dX12_way_47 : decode cX12_way 47 = .ok (.goto 4, 3) := by decide +kernel
theorem dX12_way_50 : decode cX12_way 50 = .ok (.iconst (-1), 1) := by decide +kernel
theorem dX12_way_51 : decode cX12_way 51 = .ok (.ireturn, 1) := by decide +kernel
theorem dX12_remember_0 : decode cX12_remember 0 = .ok (.aload_n 0, 1) := by decide +kernel
theorem dX12_remember_1 : decode cX12_remember 1 = .ok (.getfield 249, 3) := by decide +kernel
theorem dX12_remember_4 : decode cX12_remember 4 = .ok (.bipush 8, 2) := by decide +kernel
theorem dX12_remember_6 : decode cX12_remember 6 = .ok (.if_icmp .ne 41, 3) := by decide +kernel
theorem dX12_remember_9 : decode cX12_remember 9 = .ok (.iconst 0, 1) := by decide +kernel
theorem dX12_remember_10 : decode cX12_remember 10 = .ok (.istore_n 1, 1) := by decide +kernel
theorem dX12_remember_11 : decode cX12_remember 11 = .ok (.iload_n 1, 1) := by decide +kernel
theorem dX12_remember_12 : decode cX12_remember 12 = .ok (.sipush 371, 3) := by decide +kernel
theorem dX12_remember_15 : decode cX12_remember 15 = .ok (.if_icmp .ge 26, 3) := by decide +kernel
theorem dX12_remember_18 : decode cX12_remember 18 = .ok (.aload_n 0, 1) := by decide +kernel
theorem dX12_remember_19 : decode cX12_remember 19 = .ok (.getfield 42, 3) := by decide +kernel
theorem dX12_remember_22 : decode cX12_remember 22 = .ok (.iload_n 1, 1) := by decide +kernel
theorem dX12_remember_23 : decode cX12_remember 23 = .ok (.aload_n 0, 1) := by decide +kernel
theorem dX12_remember_24 : decode cX12_remember 24 = .ok (.getfield 42, 3) := by decide +kernel
theorem dX12_remember_27 : decode cX12_remember 27 = .ok (.iload_n 1, 1) := by decide +kernel
theorem dX12_remember_28 : decode cX12_remember 28 = .ok (.bipush 52, 2) := by decide +kernel
theorem dX12_remember_30 : decode cX12_remember 30 = .ok (.iadd, 1) := by decide +kernel
theorem dX12_remember_31 : decode cX12_remember 31 = .ok (.iconst 1, 1) := by decide +kernel
theorem dX12_remember_32 : decode cX12_remember 32 = .ok (.iadd, 1) := by decide +kernel
theorem dX12_remember_33 : decode cX12_remember 33 = .ok (.iaload, 1) := by decide +kernel
theorem dX12_remember_34 : decode cX12_remember 34 = .ok (.iastore, 1) := by decide +kernel
theorem dX12_remember_35 : decode cX12_remember 35 = .ok (.iinc 1 1, 3) := by decide +kernel
theorem dX12_remember_38 : decode cX12_remember 38 = .ok (.goto (-27), 3) := by decide +kernel
theorem dX12_remember_41 : decode cX12_remember 41 = .ok (.aload_n 0, 1) := by decide +kernel
theorem dX12_remember_42 : decode cX12_remember 42 = .ok (.bipush 7, 2) := by decide +kernel
theorem dX12_remember_44 : decode cX12_remember 44 = .ok (.putfield 249, 3) := by decide +kernel
theorem dX12_remember_47 : decode cX12_remember 47 = .ok (.iconst 0, 1) := by decide +kernel
theorem dX12_remember_48 : decode cX12_remember 48 = .ok (.istore_n 1, 1) := by decide +kernel
theorem dX12_remember_49 : decode cX12_remember 49 = .ok (.iload_n 1, 1) := by decide +kernel
theorem dX12_remember_50 : decode cX12_remember 50 = .ok (.bipush 52, 2) := by decide +kernel
theorem dX12_remember_52 : decode cX12_remember 52 = .ok (.if_icmp .ge 29, 3) := by decide +kernel
theorem dX12_remember_55 : decode cX12_remember 55 = .ok (.aload_n 0, 1) := by decide +kernel
theorem dX12_remember_56 : decode cX12_remember 56 = .ok (.getfield 42, 3) := by decide +kernel
theorem dX12_remember_59 : decode cX12_remember 59 = .ok (.bipush 53, 2) := by decide +kernel
theorem dX12_remember_61 : decode cX12_remember 61 = .ok (.aload_n 0, 1) := by decide +kernel
theorem dX12_remember_62 : decode cX12_remember 62 = .ok (.getfield 249, 3) := by decide +kernel
theorem dX12_remember_65 : decode cX12_remember 65 = .ok (.imul, 1) := by decide +kernel
theorem dX12_remember_66 : decode cX12_remember 66 = .ok (.iload_n 1, 1) := by decide +kernel
theorem dX12_remember_67 : decode cX12_remember 67 = .ok (.iadd, 1) := by decide +kernel
theorem dX12_remember_68 : decode cX12_remember 68 = .ok (.aload_n 0, 1) := by decide +kernel
theorem dX12_remember_69 : decode cX12_remember 69 = .ok (.getfield 13, 3) := by decide +kernel
theorem dX12_remember_72 : decode cX12_remember 72 = .ok (.iload_n 1, 1) := by decide +kernel
theorem dX12_remember_73 : decode cX12_remember 73 = .ok (.iaload, 1) := by decide +kernel
theorem dX12_remember_74 : decode cX12_remember 74 = .ok (.iastore, 1) := by decide +kernel
theorem dX12_remember_75 : decode cX12_remember 75 = .ok (.iinc 1 1, 3) := by decide +kernel
theorem dX12_remember_78 : decode cX12_remember 78 = .ok (.goto (-29), 3) := by decide +kernel
theorem dX12_remember_81 : decode cX12_remember 81 = .ok (.aload_n 0, 1) := by decide +kernel
theorem dX12_remember_82 : decode cX12_remember 82 = .ok (.getfield 42, 3) := by decide +kernel
theorem dX12_remember_85 : decode cX12_remember 85 = .ok (.bipush 53, 2) := by decide +kernel
theorem dX12_remember_87 : decode cX12_remember 87 = .ok (.aload_n 0, 1) := by decide +kernel
theorem dX12_remember_88 : decode cX12_remember 88 = .ok (.getfield 249, 3) := by decide +kernel
theorem dX12_remember_91 : decode cX12_remember 91 = .ok (.imul, 1) := by decide +kernel
theorem dX12_remember_92 : decode cX12_remember 92 = .ok (.bipush 52, 2) := by decide +kernel
theorem dX12_remember_94 : decode cX12_remember 94 = .ok (.iadd, 1) := by decide +kernel
theorem dX12_remember_95 : decode cX12_remember 95 = .ok (.aload_n 0, 1) := by decide +kernel
theorem dX12_remember_96 : decode cX12_remember 96 = .ok (.getfield 149, 3) := by decide +kernel
theorem dX12_remember_99 : decode cX12_remember 99 = .ok (.iastore, 1) := by decide +kernel
theorem dX12_remember_100 : decode cX12_remember 100 = .ok (.aload_n 0, 1) := by decide +kernel
theorem dX12_remember_101 : decode cX12_remember 101 = .ok (.dup, 1) := by decide +kernel
theorem dX12_remember_102 : decode cX12_remember 102 = .ok (.getfield 249, 3) := by decide +kernel
theorem dX12_remember_105 : decode cX12_remember 105 = .ok (.iconst 1, 1) := by decide +kernel
theorem dX12_remember_106 : decode cX12_remember 106 = .ok (.iadd, 1) := by decide +kernel
theorem dX12_remember_107 : decode cX12_remember 107 = .ok (.putfield 249, 3) := by decide +kernel
theorem dX12_remember_110 : decode cX12_remember 110 = .ok (.return_, 1) := by decide +kernel
theorem dX12_isMatch_0 : decode cX12_isMatch 0 = .ok (.aload_n 0, 1) := by decide +kernel
theorem dX12_isMatch_1 : decode cX12_isMatch 1 = .ok (.getfield 227, 3) := by decide +kernel
theorem dX12_isMatch_4 : decode cX12_isMatch 4 = .ok (.ifCond .le 16, 3) := by decide +kernel
theorem dX12_isMatch_7 : decode cX12_isMatch 7 = .ok (.aload_n 0, 1) := by decide +kernel
theorem dX12_isMatch_8 : decode cX12_isMatch 8 = .ok (.getfield 227, 3) := by decide +kernel
theorem dX12_isMatch_11 : decode cX12_isMatch 11 = .ok (.bipush 6, 2) := by decide +kernel
theorem dX12_isMatch_13 : decode cX12_isMatch 13 = .ok (.if_icmp .ge 7, 3) := by decide +kernel
theorem dX12_isMatch_16 : decode cX12_isMatch 16 = .ok (.iconst 1, 1) := by decide +kernel
theorem dX12_isMatch_17 : decode cX12_isMatch 17 = .ok (.goto 4, 3) := by decide +kernel
theorem dX12_isMatch_20 : decode cX12_isMatch 20 = .ok (.iconst 0, 1) := by decide +kernel
theorem dX12_isMatch_21 : decode cX12_isMatch 21 = .ok (.ireturn, 1) := by decide +kernel
theorem dX12_back_0 : decode cX12_back 0 = .ok (.aload_n 0, 1) := by decide +kernel
theorem dX12_back_1 : decode cX12_back 1 = .ok (.iconst 0, 1) := by decide +kernel
theorem dX12_back_2 : decode cX12_back 2 = .ok (.putfield 1, 3) := by decide +kernel
theorem dX12_back_5 : decode cX12_back 5 = .ok (.aload_n 0, 1) := by decide +kernel
theorem dX12_back_6 : decode cX12_back 6 = .ok (.invokevirtual 252, 3) := by decide +kernel
theorem dX12_back_9 : decode cX12_back 9 = .ok (.ifCond .ne 10, 3) := by decide +kernel
theorem dX12_back_12 : decode cX12_back 12 = .ok (.aload_n 0, 1) := by decide +kernel
theorem dX12_back_13 : decode cX12_back 13 = .ok (.getfield 249, 3) := by decide +kernel
theorem dX12_back_16 : decode cX12_back 16 = .ok (.ifCond .ne 5, 3) := by decide +kernel
theorem dX12_back_19 : decode cX12_back 19 = .ok (.iconst 0, 1) := by decide +kernel
theorem dX12_back_20 : decode cX12_back 20 = .ok (.ireturn, 1) := by decide +kernel
theorem dX12_back_21 : decode cX12_back 21 = .ok (.aload_n 0, 1) := by decide +kernel
theorem dX12_back_22 : decode cX12_back 22 = .ok (.dup, 1) := by decide +kernel
theorem dX12_back_23 : decode cX12_back 23 = .ok (.getfield 249, 3) := by decide +kernel
theorem dX12_back_26 : decode cX12_back 26 = .ok (.iconst 1, 1) := by decide +kernel
theorem dX12_back_27 : decode cX12_back 27 = .ok (.isub, 1) := by decide +kernel
theorem dX12_back_28 : decode cX12_back 28 = .ok (.putfield 249, 3) := by decide +kernel
theorem dX12_back_31 : decode cX12_back 31 = .ok (.iconst 0, 1) := by decide +kernel
theorem dX12_back_32 : decode cX12_back 32 = .ok (.istore_n 1, 1) := by decide +kernel
theorem dX12_back_33 : decode cX12_back 33 = .ok (.iload_n 1, 1) := by decide +kernel
theorem dX12_back_34 : decode cX12_back 34 = .ok (.bipush 52, 2) := by decide +kernel
theorem dX12_back_36 : decode cX12_back 36 = .ok (.if_icmp .ge 29, 3) := by decide +kernel
theorem dX12_back_39 : decode cX12_back 39 = .ok (.aload_n 0, 1) := by decide +kernel
theorem dX12_back_40 : decode cX12_back 40 = .ok (.getfield 13, 3) := by decide +kernel
theorem dX12_back_43 : decode cX12_back 43 = .ok (.iload_n 1, 1) := by decide +kernel
theorem dX12_back_44 : decode cX12_back 44 = .ok (.aload_n 0, 1) := by decide +kernel
theorem dX12_back_45 : decode cX12_back 45 = .ok (.getfield 42, 3) := by decide +kernel
theorem dX12_back_48 : decode cX12_back 48 = .ok (.bipush 53, 2) := by decide +kernel
theorem dX12_back_50 : decode cX12_back 50 = .ok (.aload_n 0, 1) := by decide +kernel
theorem dX12_back_51 : decode cX12_back 51 = .ok (.getfield 249, 3) := by decide +kernel
theorem dX12_back_54 : decode cX12_back 54 = .ok (.imul, 1) := by decide +kernel
theorem dX12_back_55 : decode cX12_back 55 = .ok (.iload_n 1, 1) := by decide +kernel
theorem dX12_back_56 : decode cX12_back 56 = .ok (.iadd, 1) := by decide +kernel
theorem dX12_back_57 : decode cX12_back 57 = .ok (.iaload, 1) := by decide +kernel
theorem dX12_back_58 : decode cX12_back 58 = .ok (.iastore, 1) := by decide +kernel
theorem dX12_back_59 : decode cX12_back 59 = .ok (.iinc 1 1, 3) := by decide +kernel
theorem dX12_back_62 : decode cX12_back 62 = .ok (.goto (-29), 3) := by decide +kernel
theorem dX12_back_65 : decode cX12_back 65 = .ok (.aload_n 0, 1) := by decide +kernel
theorem dX12_back_66 : decode cX12_back 66 = .ok (.aload_n 0, 1) := by decide +kernel
theorem dX12_back_67 : decode cX12_back 67 = .ok (.getfield 42, 3) := by decide +kernel
theorem dX12_back_70 : decode cX12_back 70 = .ok (.bipush 53, 2) := by decide +kernel
theorem dX12_back_72 : decode cX12_back 72 = .ok (.aload_n 0, 1) := by decide +kernel
theorem dX12_back_73 : decode cX12_back 73 = .ok (.getfield 249, 3) := by decide +kernel
theorem dX12_back_76 : decode cX12_back 76 = .ok (.imul, 1) := by decide +kernel
theorem dX12_back_77 : decode cX12_back 77 = .ok (.bipush 52, 2) := by decide +kernel
theorem dX12_back_79 : decode cX12_back 79 = .ok (.iadd, 1) := by decide +kernel
theorem dX12_back_80 : decode cX12_back 80 = .ok (.iaload, 1) := by decide +kernel
theorem dX12_back_81 : decode cX12_back 81 = .ok (.putfield 149, 3) := by decide +kernel
theorem dX12_back_84 : decode cX12_back 84 = .ok (.aload_n 0, 1) := by decide +kernel
theorem dX12_back_85 : decode cX12_back 85 = .ok (.iconst 0, 1) := by decide +kernel
theorem dX12_back_86 : decode cX12_back 86 = .ok (.putfield 152, 3) := by decide +kernel
theorem dX12_back_89 : decode cX12_back 89 = .ok (.iconst 1, 1) := by decide +kernel
theorem dX12_back_90 : decode cX12_back 90 = .ok (.ireturn, 1) := by decide +kernel
theorem dX12_choose_0 : decode cX12_choose 0 = .ok (.aload_n 0, 1) := by decide +kernel
theorem dX12_choose_1 : decode cX12_choose 1 = .ok (.iconst 0, 1) := by decide +kernel
theorem dX12_choose_2 : decode cX12_choose 2 = .ok (.putfield 1, 3) := by decide +kernel
theorem dX12_choose_5 : decode cX12_choose 5 = .ok (.aload_n 0, 1) := by decide +kernel
theorem dX12_choose_6 : decode cX12_choose 6 = .ok (.aload_n 0, 1) := by decide +kernel
theorem dX12_choose_7 : decode cX12_choose 7 = .ok (.iload_n 1, 1) := by decide +kernel
theorem dX12_choose_8 : decode cX12_choose 8 = .ok (.invokevirtual 246, 3) := by decide +kernel
theorem dX12_choose_11 : decode cX12_choose 11 = .ok (.iconst 1, 1) := by decide +kernel
theorem dX12_choose_12 : decode cX12_choose 12 = .ok (.invokevirtual 155, 3) := by decide +kernel
theorem dX12_choose_15 : decode cX12_choose 15 = .ok (.ifCond .ne 5, 3) := by decide +kernel
theorem dX12_choose_18 : decode cX12_choose 18 = .ok (.iconst 0, 1) := by decide +kernel
theorem dX12_choose_19 : decode cX12_choose 19 = .ok (.ireturn, 1) := by decide +kernel
theorem dX12_choose_20 : decode cX12_choose 20 = .ok (.aload_n 0, 1) := by decide +kernel
theorem dX12_choose_21 : decode cX12_choose 21 = .ok (.invokevirtual 252, 3) := by decide +kernel
theorem dX12_choose_24 : decode cX12_choose 24 = .ok (.ifCond .ne 7, 3) := by decide +kernel
theorem dX12_choose_27 : decode cX12_choose 27 = .ok (.aload_n 0, 1) := by decide +kernel
theorem dX12_choose_28 : decode cX12_choose 28 = .ok (.invokevirtual 255, 3) := by decide +kernel
theorem dX12_choose_31 : decode cX12_choose 31 = .ok (.aload_n 0, 1) := by decide +kernel
theorem dX12_choose_32 : decode cX12_choose 32 = .ok (.getfield 39, 3) := by decide +kernel
theorem dX12_choose_35 : decode cX12_choose 35 = .ok (.iload_n 1, 1) := by decide +kernel
theorem dX12_choose_36 : decode cX12_choose 36 = .ok (.iaload, 1) := by decide +kernel
theorem dX12_choose_37 : decode cX12_choose 37 = .ok (.istore_n 2, 1) := by decide +kernel
theorem dX12_choose_38 : decode cX12_choose 38 = .ok (.iconst 0, 1) := by decide +kernel
theorem dX12_choose_39 : decode cX12_choose 39 = .ok (.istore_n 3, 1) := by decide +kernel
theorem dX12_choose_40 : decode cX12_choose 40 = .ok (.iload_n 3, 1) := by decide +kernel
theorem dX12_choose_41 : decode cX12_choose 41 = .ok (.bipush 52, 2) := by decide +kernel
theorem dX12_choose_43 : decode cX12_choose 43 = .ok (.if_icmp .ge 26, 3) := by decide +kernel
theorem dX12_choose_46 : decode cX12_choose 46 = .ok (.aload_n 0, 1) := by decide +kernel
theorem dX12_choose_47 : decode cX12_choose 47 = .ok (.getfield 13, 3) := by decide +kernel
theorem dX12_choose_50 : decode cX12_choose 50 = .ok (.iload_n 3, 1) := by decide +kernel
theorem dX12_choose_51 : decode cX12_choose 51 = .ok (.aload_n 0, 1) := by decide +kernel
theorem dX12_choose_52 : decode cX12_choose 52 = .ok (.getfield 33, 3) := by decide +kernel
theorem dX12_choose_55 : decode cX12_choose 55 = .ok (.bipush 52, 2) := by decide +kernel
theorem dX12_choose_57 : decode cX12_choose 57 = .ok (.iload_n 2, 1) := by decide +kernel
theorem dX12_choose_58 : decode cX12_choose 58 = .ok (.imul, 1) := by decide +kernel
theorem dX12_choose_59 : decode cX12_choose 59 = .ok (.iload_n 3, 1) := by decide +kernel
theorem dX12_choose_60 : decode cX12_choose 60 = .ok (.iadd, 1) := by decide +kernel
theorem dX12_choose_61 : decode cX12_choose 61 = .ok (.iaload, 1) := by decide +kernel
theorem dX12_choose_62 : decode cX12_choose 62 = .ok (.iastore, 1) := by decide +kernel
theorem dX12_choose_63 : decode cX12_choose 63 = .ok (.iinc 3 1, 3) := by decide +kernel
theorem dX12_choose_66 : decode cX12_choose 66 = .ok (.goto (-26), 3) := by decide +kernel
theorem dX12_choose_69 : decode cX12_choose 69 = .ok (.aload_n 0, 1) := by decide +kernel
theorem dX12_choose_70 : decode cX12_choose 70 = .ok (.iconst 1, 1) := by decide +kernel
theorem dX12_choose_71 : decode cX12_choose 71 = .ok (.aload_n 0, 1) := by decide +kernel
theorem dX12_choose_72 : decode cX12_choose 72 = .ok (.getfield 149, 3) := by decide +kernel
theorem dX12_choose_75 : decode cX12_choose 75 = .ok (.isub, 1) := by decide +kernel
theorem dX12_choose_76 : decode cX12_choose 76 = .ok (.putfield 149, 3) := by decide +kernel
theorem dX12_choose_79 : decode cX12_choose 79 = .ok (.aload_n 0, 1) := by decide +kernel
theorem dX12_choose_80 : decode cX12_choose 80 = .ok (.iconst 0, 1) := by decide +kernel
theorem dX12_choose_81 : decode cX12_choose 81 = .ok (.putfield 152, 3) := by decide +kernel
theorem dX12_choose_84 : decode cX12_choose 84 = .ok (.aload_n 0, 1) := by decide +kernel
theorem dX12_choose_85 : decode cX12_choose 85 = .ok (.getfield 227, 3) := by decide +kernel
theorem dX12_choose_88 : decode cX12_choose 88 = .ok (.iconst 3, 1) := by decide +kernel
theorem dX12_choose_89 : decode cX12_choose 89 = .ok (.if_icmp .ne 36, 3) := by decide +kernel
theorem dX12_choose_92 : decode cX12_choose 92 = .ok (.aload_n 0, 1) := by decide +kernel
theorem dX12_choose_93 : decode cX12_choose 93 = .ok (.iconst 2, 1) := by decide +kernel
theorem dX12_choose_94 : decode cX12_choose 94 = .ok (.putfield 227, 3) := by decide +kernel
theorem dX12_choose_97 : decode cX12_choose 97 = .ok (.aload_n 0, 1) := by decide +kernel
theorem dX12_choose_98 : decode cX12_choose 98 = .ok (.invokevirtual 163, 3) := by decide +kernel
theorem dX12_choose_101 : decode cX12_choose 101 = .ok (.ifCond .eq 24, 3) := by decide +kernel
theorem dX12_choose_104 : decode cX12_choose 104 = .ok (.aload_n 0, 1) := by decide +kernel
theorem dX12_choose_105 : decode cX12_choose 105 = .ok (.aload_n 0, 1) := by decide +kernel
theorem dX12_choose_106 : decode cX12_choose 106 = .ok (.getfield 13, 3) := by decide +kernel
theorem dX12_choose_109 : decode cX12_choose 109 = .ok (.iconst 0, 1) := by decide +kernel
theorem dX12_choose_110 : decode cX12_choose 110 = .ok (.iaload, 1) := by decide +kernel
theorem dX12_choose_111 : decode cX12_choose 111 = .ok (.bipush 15, 2) := by decide +kernel
theorem dX12_choose_113 : decode cX12_choose 113 = .ok (.if_icmp .ne 7, 3) := by decide +kernel
theorem dX12_choose_116 : decode cX12_choose 116 = .ok (.iconst 0, 1) := by decide +kernel
theorem dX12_choose_117 : decode cX12_choose 117 = .ok (.goto 4, 3) := by decide +kernel
theorem dX12_choose_120 : decode cX12_choose 120 = .ok (.iconst 1, 1) := by decide +kernel
theorem dX12_choose_121 : decode cX12_choose 121 = .ok (.iconst 1, 1) := by decide +kernel
theorem dX12_choose_122 : decode cX12_choose 122 = .ok (.invokevirtual 258, 3) := by decide +kernel
theorem dX12_choose_125 : decode cX12_choose 125 = .ok (.aload_n 0, 1) := by decide +kernel
theorem dX12_choose_126 : decode cX12_choose 126 = .ok (.getfield 149, 3) := by decide +kernel
theorem dX12_choose_129 : decode cX12_choose 129 = .ok (.ireturn, 1) := by decide +kernel
theorem dX12_begin_0 : decode cX12_begin 0 = .ok (.aload_n 0, 1) := by decide +kernel
theorem dX12_begin_1 : decode cX12_begin 1 = .ok (.iconst 0, 1) := by decide +kernel
theorem dX12_begin_2 : decode cX12_begin 2 = .ok (.putfield 1, 3) := by decide +kernel
theorem dX12_begin_5 : decode cX12_begin 5 = .ok (.aload_n 0, 1) := by decide +kernel
theorem dX12_begin_6 : decode cX12_begin 6 = .ok (.iload_n 1, 1) := by decide +kernel
theorem dX12_begin_7 : decode cX12_begin 7 = .ok (.ifCond .lt 13, 3) := by decide +kernel
theorem dX12_begin_10 : decode cX12_begin 10 = .ok (.iload_n 1, 1) := by decide +kernel
theorem dX12_begin_11 : decode cX12_begin 11 = .ok (.bipush 25, 2) := by decide +kernel
theorem dX12_begin_13 : decode cX12_begin 13 = .ok (.if_icmp .gt 7, 3) := by decide +kernel
theorem dX12_begin_16 : decode cX12_begin 16 = .ok (.iconst 1, 1) := by decide +kernel
theorem dX12_begin_17 : decode cX12_begin 17 = .ok (.goto 4, 3) := by decide +kernel
theorem dX12_begin_20 : decode cX12_begin 20 = .ok (.iconst 0, 1) := by decide +kernel
theorem dX12_begin_21 : decode cX12_begin 21 = .ok (.iconst 1, 1) := by decide +kernel
theorem dX12_begin_22 : decode cX12_begin 22 = .ok (.invokevirtual 155, 3) := by decide +kernel
theorem dX12_begin_25 : decode cX12_begin 25 = .ok (.ifCond .ne 4, 3) := by decide +kernel
theorem dX12_begin_28 : decode cX12_begin 28 = .ok (.return_, 1) := by decide +kernel
theorem dX12_begin_29 : decode cX12_begin 29 = .ok (.aload_n 0, 1) := by decide +kernel
theorem dX12_begin_30 : decode cX12_begin 30 = .ok (.iload_n 1, 1) := by decide +kernel
theorem dX12_begin_31 : decode cX12_begin 31 = .ok (.putfield 262, 3) := by decide +kernel
theorem dX12_begin_34 : decode cX12_begin 34 = .ok (.aload_n 0, 1) := by decide +kernel
theorem dX12_begin_35 : decode cX12_begin 35 = .ok (.getfield 54, 3) := by decide +kernel
theorem dX12_begin_38 : decode cX12_begin 38 = .ok (.iconst 0, 1) := by decide +kernel
theorem dX12_begin_39 : decode cX12_begin 39 = .ok (.iconst 0, 1) := by decide +kernel
theorem dX12_begin_40 : decode cX12_begin 40 = .ok (.iastore, 1) := by decide +kernel
theorem dX12_begin_41 : decode cX12_begin 41 = .ok (.aload_n 0, 1) := by decide +kernel
theorem dX12_begin_42 : decode cX12_begin 42 = .ok (.getfield 54, 3) := by decide +kernel
theorem dX12_begin_45 : decode cX12_begin 45 = .ok (.iconst 1, 1) := by decide +kernel
theorem dX12_begin_46 : decode cX12_begin 46 = .ok (.iconst 0, 1) := by decide +kernel
theorem dX12_begin_47 : decode cX12_begin 47 = .ok (.iastore, 1) := by decide +kernel
theorem dX12_begin_48 : decode cX12_begin 48 = .ok (.aload_n 0, 1) := by decide +kernel
theorem dX12_begin_49 : decode cX12_begin 49 = .ok (.iconst 0, 1) := by decide +kernel
theorem dX12_begin_50 : decode cX12_begin 50 = .ok (.putfield 265, 3) := by decide +kernel
theorem dX12_begin_53 : decode cX12_begin 53 = .ok (.aload_n 0, 1) := by decide +kernel
theorem dX12_begin_54 : decode cX12_begin 54 = .ok (.iconst 0, 1) := by decide +kernel
theorem dX12_begin_55 : decode cX12_begin 55 = .ok (.putfield 268, 3) := by decide +kernel
theorem dX12_begin_58 : decode cX12_begin 58 = .ok (.aload_n 0, 1) := by decide +kernel
theorem dX12_begin_59 : decode cX12_begin 59 = .ok (.iconst 0, 1) := by decide +kernel
theorem dX12_begin_60 : decode cX12_begin 60 = .ok (.putfield 271, 3) := by decide +kernel
theorem dX12_begin_63 : decode cX12_begin 63 = .ok (.aload_n 0, 1) := by decide +kernel
theorem dX12_begin_64 : decode cX12_begin 64 = .ok (.iconst (-1), 1) := by decide +kernel
theorem dX12_begin_65 : decode cX12_begin 65 = .ok (.putfield 51, 3) := by decide +kernel
theorem dX12_begin_68 : decode cX12_begin 68 = .ok (.aload_n 0, 1) := by decide +kernel
theorem dX12_begin_69 : decode cX12_begin 69 = .ok (.iconst 0, 1) := by decide +kernel
theorem dX12_begin_70 : decode cX12_begin 70 = .ok (.putfield 274, 3) := by decide +kernel
theorem dX12_begin_73 : decode cX12_begin 73 = .ok (.aload_n 0, 1) := by decide +kernel
theorem dX12_begin_74 : decode cX12_begin 74 = .ok (.iconst 0, 1) := by decide +kernel
theorem dX12_begin_75 : decode cX12_begin 75 = .ok (.putfield 278, 3) := by decide +kernel
theorem dX12_begin_78 : decode cX12_begin 78 = .ok (.aload_n 0, 1) := by decide +kernel
theorem dX12_begin_79 : decode cX12_begin 79 = .ok (.iconst 0, 1) := by decide +kernel
theorem dX12_begin_80 : decode cX12_begin 80 = .ok (.putfield 249, 3) := by decide +kernel
theorem dX12_begin_83 : decode cX12_begin 83 = .ok (.aload_n 0, 1) := by decide +kernel
theorem dX12_begin_84 : decode cX12_begin 84 = .ok (.invokevirtual 281, 3) := by decide +kernel
theorem dX12_begin_87 : decode cX12_begin 87 = .ok (.return_, 1) := by decide +kernel
theorem dX12_game_0 : decode cX12_game 0 = .ok (.aload_n 0, 1) := by decide +kernel
theorem dX12_game_1 : decode cX12_game 1 = .ok (.invokevirtual 146, 3) := by decide +kernel
theorem dX12_game_4 : decode cX12_game 4 = .ok (.aload_n 0, 1) := by decide +kernel
theorem dX12_game_5 : decode cX12_game 5 = .ok (.iconst 1, 1) := by decide +kernel
theorem dX12_game_6 : decode cX12_game 6 = .ok (.putfield 45, 3) := by decide +kernel
theorem dX12_game_9 : decode cX12_game 9 = .ok (.aload_n 0, 1) := by decide +kernel
theorem dX12_game_10 : decode cX12_game 10 = .ok (.iconst (-1), 1) := by decide +kernel
theorem dX12_game_11 : decode cX12_game 11 = .ok (.putfield 48, 3) := by decide +kernel
theorem dX12_game_14 : decode cX12_game 14 = .ok (.aload_n 0, 1) := by decide +kernel
theorem dX12_game_15 : decode cX12_game 15 = .ok (.dup, 1) := by decide +kernel
theorem dX12_game_16 : decode cX12_game 16 = .ok (.getfield 265, 3) := by decide +kernel
theorem dX12_game_19 : decode cX12_game 19 = .ok (.iconst 1, 1) := by decide +kernel
theorem dX12_game_20 : decode cX12_game 20 = .ok (.iadd, 1) := by decide +kernel
theorem dX12_game_21 : decode cX12_game 21 = .ok (.putfield 265, 3) := by decide +kernel
theorem dX12_game_24 : decode cX12_game 24 = .ok (.aload_n 0, 1) := by decide +kernel
theorem dX12_game_25 : decode cX12_game 25 = .ok (.aload_n 0, 1) := by decide +kernel
theorem dX12_game_26 : decode cX12_game 26 = .ok (.getfield 274, 3) := by decide +kernel
theorem dX12_game_29 : decode cX12_game 29 = .ok (.putfield 284, 3) := by decide +kernel
theorem dX12_game_32 : decode cX12_game 32 = .ok (.aload_n 0, 1) := by decide +kernel
theorem dX12_game_33 : decode cX12_game 33 = .ok (.iconst 0, 1) := by decide +kernel
theorem dX12_game_34 : decode cX12_game 34 = .ok (.putfield 274, 3) := by decide +kernel
theorem dX12_game_37 : decode cX12_game 37 = .ok (.aload_n 0, 1) := by decide +kernel
theorem dX12_game_38 : decode cX12_game 38 = .ok (.iconst 1, 1) := by decide +kernel
theorem dX12_game_39 : decode cX12_game 39 = .ok (.putfield 227, 3) := by decide +kernel
theorem dX12_game_42 : decode cX12_game 42 = .ok (.return_, 1) := by decide +kernel
theorem dX12_gameOver_0 : decode cX12_gameOver 0 = .ok (.bipush 26, 2) := by decide +kernel
theorem dX12_gameOver_2 : decode cX12_gameOver 2 = .ok (.iconst 1, 1) := by decide +kernel
theorem dX12_gameOver_3 : decode cX12_gameOver 3 = .ok (.iload_n 1, 1) := by decide +kernel
theorem dX12_gameOver_4 : decode cX12_gameOver 4 = .ok (.isub, 1) := by decide +kernel
theorem dX12_gameOver_5 : decode cX12_gameOver 5 = .ok (.imul, 1) := by decide +kernel
theorem dX12_gameOver_6 : decode cX12_gameOver 6 = .ok (.istore_n 3, 1) := by decide +kernel
theorem dX12_gameOver_7 : decode cX12_gameOver 7 = .ok (.iconst 1, 1) := by decide +kernel
theorem dX12_gameOver_8 : decode cX12_gameOver 8 = .ok (.istore 4, 2) := by decide +kernel
theorem dX12_gameOver_10 : decode cX12_gameOver 10 = .ok (.iload_n 2, 1) := by decide +kernel
theorem dX12_gameOver_11 : decode cX12_gameOver 11 = .ok (.ifCond .eq 52, 3) := by decide +kernel
theorem dX12_gameOver_14 : decode cX12_gameOver 14 = .ok (.aload_n 0, 1) := by decide +kernel
theorem dX12_gameOver_15 : decode cX12_gameOver 15 = .ok (.getfield 13, 3) := by decide +kernel
theorem dX12_gameOver_18 : decode cX12_gameOver 18 = .ok (.iload_n 3, 1) := by decide +kernel
theorem dX12_gameOver_19 : decode cX12_gameOver 19 = .ok (.iaload, 1) := by decide +kernel
theorem dX12_gameOver_20 : decode cX12_gameOver 20 = .ok (.ifCond .ne 43, 3) := by decide +kernel
theorem dX12_gameOver_23 : decode cX12_gameOver 23 = .ok (.iconst 2, 1) := by decide +kernel
theorem dX12_gameOver_24 : decode cX12_gameOver 24 = .ok (.istore 4, 2) := by decide +kernel
theorem dX12_gameOver_26 : decode cX12_gameOver 26 = .ok (.bipush 19, 2) := by decide +kernel
theorem dX12_gameOver_28 : decode cX12_gameOver 28 = .ok (.istore 5, 2) := by decide +kernel
theorem dX12_gameOver_30 : decode cX12_gameOver 30 = .ok (.iload 5, 2) := by decide +kernel
theorem dX12_gameOver_32 : decode cX12_gameOver 32 = .ok (.bipush 26, 2) := by decide +kernel
theorem dX12_gameOver_34 : decode cX12_gameOver 34 = .ok (.if_icmp .ge 29, 3) := by decide +kernel
theorem dX12_gameOver_37 : decode cX12_gameOver 37 = .ok (.aload_n 0, 1) := by decide +kernel
theorem dX12_gameOver_38 : decode cX12_gameOver 38 = .ok (.getfield 13, 3) := by decide +kernel
theorem dX12_gameOver_41 : decode cX12_gameOver 41 = .ok (.iload_n 3, 1) := by decide +kernel
theorem dX12_gameOver_42 : decode cX12_gameOver 42 = .ok (.iload 5, 2) := by decide +kernel
theorem dX12_gameOver_44 : decode cX12_gameOver 44 = .ok (.iadd, 1) := by decide +kernel
theorem dX12_gameOver_45 : decode cX12_gameOver 45 = .ok (.iaload, 1) := by decide +kernel
theorem dX12_gameOver_46 : decode cX12_gameOver 46 = .ok (.ifCond .le 7, 3) := by decide +kernel
theorem dX12_gameOver_49 : decode cX12_gameOver 49 = .ok (.iconst 3, 1) := by decide +kernel
theorem dX12_gameOver_50 : decode cX12_gameOver 50 = .ok (.goto 5, 3) := by decide +kernel
theorem dX12_gameOver_53 : decode cX12_gameOver 53 = .ok (.iload 4, 2) := by decide +kernel
theorem dX12_gameOver_55 : decode cX12_gameOver 55 = .ok (.istore 4, 2) := by decide +kernel
theorem dX12_gameOver_57 : decode cX12_gameOver 57 = .ok (.iinc 5 1, 3) := by decide +kernel
theorem dX12_gameOver_60 : decode cX12_gameOver 60 = .ok (.goto (-30), 3) := by decide +kernel
theorem dX12_gameOver_63 : decode cX12_gameOver 63 = .ok (.aload_n 0, 1) := by decide +kernel
theorem dX12_gameOver_64 : decode cX12_gameOver 64 = .ok (.aload_n 0, 1) := by decide +kernel
theorem dX12_gameOver_65 : decode cX12_gameOver 65 = .ok (.getfield 45, 3) := by decide +kernel
theorem dX12_gameOver_68 : decode cX12_gameOver 68 = .ok (.iload 4, 2) := by decide +kernel
theorem dX12_gameOver_70 : decode cX12_gameOver 70 = .ok (.imul, 1) := by decide +kernel
theorem dX12_gameOver_71 : decode cX12_gameOver 71 = .ok (.putfield 271, 3) := by decide +kernel
theorem dX12_gameOver_74 : decode cX12_gameOver 74 = .ok (.aload_n 0, 1) := by decide +kernel
theorem dX12_gameOver_75 : decode cX12_gameOver 75 = .ok (.iload_n 1, 1) := by decide +kernel
theorem dX12_gameOver_76 : decode cX12_gameOver 76 = .ok (.putfield 51, 3) := by decide +kernel
theorem dX12_gameOver_79 : decode cX12_gameOver 79 = .ok (.aload_n 0, 1) := by decide +kernel
theorem dX12_gameOver_80 : decode cX12_gameOver 80 = .ok (.getfield 54, 3) := by decide +kernel
theorem dX12_gameOver_83 : decode cX12_gameOver 83 = .ok (.iload_n 1, 1) := by decide +kernel
theorem dX12_gameOver_84 : decode cX12_gameOver 84 = .ok (.dup2, 1) := by decide +kernel
theorem dX12_gameOver_85 : decode cX12_gameOver 85 = .ok (.iaload, 1) := by decide +kernel
theorem dX12_gameOver_86 : decode cX12_gameOver 86 = .ok (.aload_n 0, 1) := by decide +kernel
theorem dX12_gameOver_87 : decode cX12_gameOver 87 = .ok (.getfield 271, 3) := by decide +kernel
theorem dX12_gameOver_90 : decode cX12_gameOver 90 = .ok (.iadd, 1) := by decide +kernel
theorem dX12_gameOver_91 : decode cX12_gameOver 91 = .ok (.iastore, 1) := by decide +kernel
theorem dX12_gameOver_92 : decode cX12_gameOver 92 = .ok (.aload_n 0, 1) := by decide +kernel
theorem dX12_gameOver_93 : decode cX12_gameOver 93 = .ok (.aload_n 0, 1) := by decide +kernel
theorem dX12_gameOver_94 : decode cX12_gameOver 94 = .ok (.getfield 262, 3) := by decide +kernel
theorem dX12_gameOver_97 : decode cX12_gameOver 97 = .ok (.ifCond .le 21, 3) := by decide +kernel
theorem dX12_gameOver_100 : decode cX12_gameOver 100 = .ok (.aload_n 0, 1) := by decide +kernel
theorem dX12_gameOver_101 : decode cX12_gameOver 101 = .ok (.getfield 54, 3) := by decide +kernel
theorem dX12_gameOver_104 : decode cX12_gameOver 104 = .ok (.iload_n 1, 1) := by decide +kernel
theorem dX12_gameOver_105 : decode cX12_gameOver 105 = .ok (.iaload, 1) := by decide +kernel
theorem dX12_gameOver_106 : decode cX12_gameOver 106 = .ok (.aload_n 0, 1) := by decide +kernel
theorem dX12_gameOver_107 : decode cX12_gameOver 107 = .ok (.getfield 262, 3) := by decide +kernel
theorem dX12_gameOver_110 : decode cX12_gameOver 110 = .ok (.if_icmp .lt 8, 3) := by decide +kernel
theorem dX12_gameOver_113 : decode cX12_gameOver 113 = .ok (.bipush 6, 2) := by decide +kernel
theorem dX12_gameOver_115 : decode cX12_gameOver 115 = .ok (.goto 4, 3) := by decide +kernel
theorem dX12_gameOver_118 : decode cX12_gameOver 118 = .ok (.iconst 5, 1) := by decide +kernel
theorem dX12_gameOver_119 : decode cX12_gameOver 119 = .ok (.putfield 227, 3) := by decide +kernel
theorem dX12_gameOver_122 : decode cX12_gameOver 122 = .ok (.aload_n 0, 1) := by decide +kernel
theorem dX12_gameOver_123 : decode cX12_gameOver 123 = .ok (.getfield 262, 3) := by decide +kernel
theorem dX12_gameOver_126 : decode cX12_gameOver 126 = .ok (.iconst 2, 1) := by decide +kernel
theorem dX12_gameOver_127 : decode cX12_gameOver 127 = .ok (.if_icmp .lt 35, 3) := by decide +kernel
theorem dX12_gameOver_130 : decode cX12_gameOver 130 = .ok (.aload_n 0, 1) := by decide +kernel
theorem dX12_gameOver_131 : decode cX12_gameOver 131 = .ok (.getfield 278, 3) := by decide +kernel
theorem dX12_gameOver_134 : decode cX12_gameOver 134 = .ok (.ifCond .ne 28, 3) := by decide +kernel
theorem dX12_gameOver_137 : decode cX12_gameOver 137 = .ok (.aload_n 0, 1) := by decide +kernel
theorem dX12_gameOver_138 : decode cX12_gameOver 138 = .ok (.getfield 54, 3) := by decide +kernel
theorem dX12_gameOver_141 : decode cX12_gameOver 141 = .ok (.iload_n 1, 1) := by decide +kernel
theorem dX12_gameOver_142 : decode cX12_gameOver 142 = .ok (.iaload, 1) := by decide +kernel
theorem dX12_gameOver_143 : decode cX12_gameOver 143 = .ok (.aload_n 0, 1) := by decide +kernel
theorem dX12_gameOver_144 : decode cX12_gameOver 144 = .ok (.getfield 262, 3) := by decide +kernel
theorem dX12_gameOver_147 : decode cX12_gameOver 147 = .ok (.iconst 1, 1) := by decide +kernel
theorem dX12_gameOver_148 : decode cX12_gameOver 148 = .ok (.isub, 1) := by decide +kernel
theorem dX12_gameOver_149 : decode cX12_gameOver 149 = .ok (.if_icmp .ne 13, 3) := by decide +kernel
theorem dX12_gameOver_152 : decode cX12_gameOver 152 = .ok (.aload_n 0, 1) := by decide +kernel
theorem dX12_gameOver_153 : decode cX12_gameOver 153 = .ok (.iconst 1, 1) := by decide +kernel
theorem dX12_gameOver_154 : decode cX12_gameOver 154 = .ok (.putfield 278, 3) := by decide +kernel
theorem dX12_gameOver_157 : decode cX12_gameOver 157 = .ok (.aload_n 0, 1) := by decide +kernel
theorem dX12_gameOver_158 : decode cX12_gameOver 158 = .ok (.iconst 1, 1) := by decide +kernel
theorem dX12_gameOver_159 : decode cX12_gameOver 159 = .ok (.putfield 274, 3) := by decide +kernel
theorem dX12_gameOver_162 : decode cX12_gameOver 162 = .ok (.return_, 1) := by decide +kernel
theorem dX12_roll_0 : decode cX12_roll 0 = .ok (.aload_n 0, 1) := by decide +kernel
theorem dX12_roll_1 : decode cX12_roll 1 = .ok (.iconst 0, 1) := by decide +kernel
theorem dX12_roll_2 : decode cX12_roll 2 = .ok (.putfield 1, 3) := by decide +kernel
theorem dX12_roll_5 : decode cX12_roll 5 = .ok (.aload_n 0, 1) := by decide +kernel
theorem dX12_roll_6 : decode cX12_roll 6 = .ok (.iload_n 1, 1) := by decide +kernel
theorem dX12_roll_7 : decode cX12_roll 7 = .ok (.invokestatic 236, 3) := by decide +kernel
theorem dX12_roll_10 : decode cX12_roll 10 = .ok (.ifCond .eq 14, 3) := by decide +kernel
theorem dX12_roll_13 : decode cX12_roll 13 = .ok (.iload_n 2, 1) := by decide +kernel
theorem dX12_roll_14 : decode cX12_roll 14 = .ok (.invokestatic 236, 3) := by decide +kernel
theorem dX12_roll_17 : decode cX12_roll 17 = .ok (.ifCond .eq 7, 3) := by decide +kernel
theorem dX12_roll_20 : decode cX12_roll 20 = .ok (.iconst 1, 1) := by decide +kernel
theorem dX12_roll_21 : decode cX12_roll 21 = .ok (.goto 4, 3) := by decide +kernel
theorem dX12_roll_24 : decode cX12_roll 24 = .ok (.iconst 0, 1) := by decide +kernel
theorem dX12_roll_25 : decode cX12_roll 25 = .ok (.iconst 1, 1) := by decide +kernel
theorem dX12_roll_26 : decode cX12_roll 26 = .ok (.invokevirtual 155, 3) := by decide +kernel
theorem dX12_roll_29 : decode cX12_roll 29 = .ok (.ifCond .eq 32, 3) := by decide +kernel
theorem dX12_roll_32 : decode cX12_roll 32 = .ok (.aload_n 0, 1) := by decide +kernel
theorem dX12_roll_33 : decode cX12_roll 33 = .ok (.aload_n 0, 1) := by decide +kernel
theorem dX12_roll_34 : decode cX12_roll 34 = .ok (.getfield 227, 3) := by decide +kernel
theorem dX12_roll_37 : decode cX12_roll 37 = .ok (.iconst 1, 1) := by decide +kernel
theorem dX12_roll_38 : decode cX12_roll 38 = .ok (.if_icmp .eq 11, 3) := by decide +kernel
theorem dX12_roll_41 : decode cX12_roll 41 = .ok (.aload_n 0, 1) := by decide +kernel
theorem dX12_roll_42 : decode cX12_roll 42 = .ok (.getfield 227, 3) := by decide +kernel
theorem dX12_roll_45 : decode cX12_roll 45 = .ok (.iconst 2, 1) := by decide +kernel
theorem dX12_roll_46 : decode cX12_roll 46 = .ok (.if_icmp .ne 7, 3) := by decide +kernel
theorem dX12_roll_49 : decode cX12_roll 49 = .ok (.iconst 1, 1) := by decide +kernel
theorem dX12_roll_50 : decode cX12_roll 50 = .ok (.goto 4, 3) := by decide +kernel
theorem dX12_roll_53 : decode cX12_roll 53 = .ok (.iconst 0, 1) := by decide +kernel
theorem dX12_roll_54 : decode cX12_roll 54 = .ok (.iconst 2, 1) := by decide +kernel
theorem dX12_roll_55 : decode cX12_roll 55 = .ok (.invokevirtual 155, 3) := by decide +kernel
theorem dX12_roll_58 : decode cX12_roll 58 = .ok (.ifCond .ne 5, 3) := by decide +kernel
theorem dX12_roll_61 : decode cX12_roll 61 = .ok (.iconst 0, 1) := by decide +kernel
theorem dX12_roll_62 : decode cX12_roll 62 = .ok (.ireturn, 1) := by decide +kernel
theorem dX12_roll_63 : decode cX12_roll 63 = .ok (.aload_n 0, 1) := by decide +kernel
theorem dX12_roll_64 : decode cX12_roll 64 = .ok (.dup, 1) := by decide +kernel
theorem dX12_roll_65 : decode cX12_roll 65 = .ok (.getfield 268, 3) := by decide +kernel
theorem dX12_roll_68 : decode cX12_roll 68 = .ok (.iconst 1, 1) := by decide +kernel
theorem dX12_roll_69 : decode cX12_roll 69 = .ok (.iadd, 1) := by decide +kernel
theorem dX12_roll_70 : decode cX12_roll 70 = .ok (.putfield 268, 3) := by decide +kernel
theorem dX12_roll_73 : decode cX12_roll 73 = .ok (.aload_n 0, 1) := by decide +kernel
theorem dX12_roll_74 : decode cX12_roll 74 = .ok (.getfield 227, 3) := by decide +kernel
theorem dX12_roll_77 : decode cX12_roll 77 = .ok (.iconst 1, 1) := by decide +kernel
theorem dX12_roll_78 : decode cX12_roll 78 = .ok (.if_icmp .ne 10, 3) := by decide +kernel
theorem dX12_roll_81 : decode cX12_roll 81 = .ok (.iload_n 1, 1) := by decide +kernel
theorem dX12_roll_82 : decode cX12_roll 82 = .ok (.iload_n 2, 1) := by decide +kernel
theorem dX12_roll_83 : decode cX12_roll 83 = .ok (.if_icmp .ne 5, 3) := by decide +kernel
theorem dX12_roll_86 : decode cX12_roll 86 = .ok (.iconst 1, 1) := by decide +kernel
theorem dX12_roll_87 : decode cX12_roll 87 = .ok (.ireturn, 1) := by decide +kernel
theorem dX12_roll_88 : decode cX12_roll 88 = .ok (.aload_n 0, 1) := by decide +kernel
theorem dX12_roll_89 : decode cX12_roll 89 = .ok (.getfield 227, 3) := by decide +kernel
theorem dX12_roll_92 : decode cX12_roll 92 = .ok (.iconst 1, 1) := by decide +kernel
theorem dX12_roll_93 : decode cX12_roll 93 = .ok (.if_icmp .ne 17, 3) := by decide +kernel
theorem dX12_roll_96 : decode cX12_roll 96 = .ok (.aload_n 0, 1) := by decide +kernel
theorem dX12_roll_97 : decode cX12_roll 97 = .ok (.iload_n 1, 1) := by decide +kernel
theorem dX12_roll_98 : decode cX12_roll 98 = .ok (.iload_n 2, 1) := by decide +kernel
theorem dX12_roll_99 : decode cX12_roll 99 = .ok (.if_icmp .le 7, 3) := by decide +kernel
theorem dX12_roll_102 : decode cX12_roll 102 = .ok (.iconst 0, 1) := by decide +kernel
theorem dX12_roll_103 : decode cX12_roll 103 = .ok (.goto 4, 3) := by decide +kernel
theorem dX12_roll_106 : decode cX12_roll 106 = .ok (.iconst 1, 1) := by decide +kernel
theorem dX12_roll_107 : decode cX12_roll 107 = .ok (.putfield 149, 3) := by decide +kernel
theorem dX12_roll_110 : decode cX12_roll 110 = .ok (.aload_n 0, 1) := by decide +kernel
theorem dX12_roll_111 : decode cX12_roll 111 = .ok (.iload_n 1, 1) := by decide +kernel
theorem dX12_roll_112 : decode cX12_roll 112 = .ok (.iload_n 2, 1) := by decide +kernel
theorem dX12_roll_113 : decode cX12_roll 113 = .ok (.if_icmp .le 7, 3) := by decide +kernel
theorem dX12_roll_116 : decode cX12_roll 116 = .ok (.iload_n 1, 1) := by decide +kernel
theorem dX12_roll_117 : decode cX12_roll 117 = .ok (.goto 4, 3) := by decide +kernel
theorem dX12_roll_120 : decode cX12_roll 120 = .ok (.iload_n 2, 1) := by decide +kernel
theorem dX12_roll_121 : decode cX12_roll 121 = .ok (.putfield 230, 3) := by decide +kernel
theorem dX12_roll_124 : decode cX12_roll 124 = .ok (.aload_n 0, 1) := by decide +kernel
theorem dX12_roll_125 : decode cX12_roll 125 = .ok (.iload_n 1, 1) := by decide +kernel
theorem dX12_roll_126 : decode cX12_roll 126 = .ok (.iload_n 2, 1) := by decide +kernel
theorem dX12_roll_127 : decode cX12_roll 127 = .ok (.if_icmp .le 7, 3) := by decide +kernel
theorem dX12_roll_130 : decode cX12_roll 130 = .ok (.iload_n 2, 1) := by decide +kernel
theorem dX12_roll_131 : decode cX12_roll 131 = .ok (.goto 4, 3) := by decide +kernel
theorem dX12_roll_134 : decode cX12_roll 134 = .ok (.iload_n 1, 1) := by decide +kernel
theorem dX12_roll_135 : decode cX12_roll 135 = .ok (.putfield 233, 3) := by decide +kernel
theorem dX12_roll_138 : decode cX12_roll 138 = .ok (.aload_n 0, 1) := by decide +kernel
theorem dX12_roll_139 : decode cX12_roll 139 = .ok (.iconst 3, 1) := by decide +kernel
theorem dX12_roll_140 : decode cX12_roll 140 = .ok (.putfield 227, 3) := by decide +kernel
theorem dX12_roll_143 : decode cX12_roll 143 = .ok (.iconst 3, 1) := by decide +kernel
theorem dX12_roll_144 : decode cX12_roll 144 = .ok (.ireturn, 1) := by decide +kernel
theorem dX12_offer_0 : decode cX12_offer 0 = .ok (.aload_n 0, 1) := by decide +kernel
theorem dX12_offer_1 : decode cX12_offer 1 = .ok (.iconst 0, 1) := by decide +kernel
theorem dX12_offer_2 : decode cX12_offer 2 = .ok (.putfield 1, 3) := by decide +kernel
theorem dX12_offer_5 : decode cX12_offer 5 = .ok (.aload_n 0, 1) := by decide +kernel
theorem dX12_offer_6 : decode cX12_offer 6 = .ok (.aload_n 0, 1) := by decide +kernel
theorem dX12_offer_7 : decode cX12_offer 7 = .ok (.getfield 227, 3) := by decide +kernel
theorem dX12_offer_10 : decode cX12_offer 10 = .ok (.iconst 2, 1) := by decide +kernel
theorem dX12_offer_11 : decode cX12_offer 11 = .ok (.if_icmp .ne 42, 3) := by decide +kernel
theorem dX12_offer_14 : decode cX12_offer 14 = .ok (.aload_n 0, 1) := by decide +kernel
theorem dX12_offer_15 : decode cX12_offer 15 = .ok (.getfield 48, 3) := by decide +kernel
theorem dX12_offer_18 : decode cX12_offer 18 = .ok (.iconst (-1), 1) := by decide +kernel
theorem dX12_offer_19 : decode cX12_offer 19 = .ok (.if_icmp .eq 14, 3) := by decide +kernel
theorem dX12_offer_22 : decode cX12_offer 22 = .ok (.aload_n 0, 1) := by decide +kernel
theorem dX12_offer_23 : decode cX12_offer 23 = .ok (.getfield 48, 3) := by decide +kernel
theorem dX12_offer_26 : decode cX12_offer 26 = .ok (.aload_n 0, 1) := by decide +kernel
theorem dX12_offer_27 : decode cX12_offer 27 = .ok (.getfield 149, 3) := by decide +kernel
theorem dX12_offer_30 : decode cX12_offer 30 = .ok (.if_icmp .ne 23, 3) := by decide +kernel
theorem dX12_offer_33 : decode cX12_offer 33 = .ok (.aload_n 0, 1) := by decide +kernel
theorem dX12_offer_34 : decode cX12_offer 34 = .ok (.getfield 45, 3) := by decide +kernel
theorem dX12_offer_37 : decode cX12_offer 37 = .ok (.bipush 64, 2) := by decide +kernel
theorem dX12_offer_39 : decode cX12_offer 39 = .ok (.if_icmp .ge 14, 3) := by decide +kernel
theorem dX12_offer_42 : decode cX12_offer 42 = .ok (.aload_n 0, 1) := by decide +kernel
theorem dX12_offer_43 : decode cX12_offer 43 = .ok (.getfield 284, 3) := by decide +kernel
theorem dX12_offer_46 : decode cX12_offer 46 = .ok (.ifCond .ne 7, 3) := by decide +kernel
theorem dX12_offer_49 : decode cX12_offer 49 = .ok (.iconst 1, 1) := by decide +kernel
theorem dX12_offer_50 : decode cX12_offer 50 = .ok (.goto 4, 3) := by decide +kernel
theorem dX12_offer_53 : decode cX12_offer 53 = .ok (.iconst 0, 1) := by decide +kernel
theorem dX12_offer_54 : decode cX12_offer 54 = .ok (.iconst 1, 1) := by decide +kernel
theorem dX12_offer_55 : decode cX12_offer 55 = .ok (.invokevirtual 155, 3) := by decide +kernel
theorem dX12_offer_58 : decode cX12_offer 58 = .ok (.ifCond .ne 5, 3) := by decide +kernel
theorem dX12_offer_61 : decode cX12_offer 61 = .ok (.iconst 0, 1) := by decide +kernel
theorem dX12_offer_62 : decode cX12_offer 62 = .ok (.ireturn, 1) := by decide +kernel
theorem dX12_offer_63 : decode cX12_offer 63 = .ok (.aload_n 0, 1) := by decide +kernel
theorem dX12_offer_64 : decode cX12_offer 64 = .ok (.iconst 4, 1) := by decide +kernel
theorem dX12_offer_65 : decode cX12_offer 65 = .ok (.putfield 227, 3) := by decide +kernel
theorem dX12_offer_68 : decode cX12_offer 68 = .ok (.iconst 2, 1) := by decide +kernel
theorem dX12_offer_69 : decode cX12_offer 69 = .ok (.aload_n 0, 1) := by decide +kernel
theorem dX12_offer_70 : decode cX12_offer 70 = .ok (.getfield 45, 3) := by decide +kernel
theorem dX12_offer_73 : decode cX12_offer 73 = .ok (.imul, 1) := by decide +kernel
theorem dX12_offer_74 : decode cX12_offer 74 = .ok (.ireturn, 1) := by decide +kernel
theorem dX12_answer_0 : decode cX12_answer 0 = .ok (.aload_n 0, 1) := by decide +kernel
theorem dX12_answer_1 : decode cX12_answer 1 = .ok (.iconst 0, 1) := by decide +kernel
theorem dX12_answer_2 : decode cX12_answer 2 = .ok (.putfield 1, 3) := by decide +kernel
theorem dX12_answer_5 : decode cX12_answer 5 = .ok (.aload_n 0, 1) := by decide +kernel
theorem dX12_answer_6 : decode cX12_answer 6 = .ok (.aload_n 0, 1) := by decide +kernel
theorem dX12_answer_7 : decode cX12_answer 7 = .ok (.getfield 227, 3) := by decide +kernel
theorem dX12_answer_10 : decode cX12_answer 10 = .ok (.iconst 4, 1) := by decide +kernel
theorem dX12_answer_11 : decode cX12_answer 11 = .ok (.if_icmp .ne 7, 3) := by decide +kernel
theorem dX12_answer_14 : decode cX12_answer 14 = .ok (.iconst 1, 1) := by decide +kernel
theorem dX12_answer_15 : decode cX12_answer 15 = .ok (.goto 4, 3) := by decide +kernel
theorem dX12_answer_18 : decode cX12_answer 18 = .ok (.iconst 0, 1) := by decide +kernel
theorem dX12_answer_19 : decode cX12_answer 19 = .ok (.iconst 1, 1) := by decide +kernel
theorem dX12_answer_20 : decode cX12_answer 20 = .ok (.invokevirtual 155, 3) := by decide +kernel
theorem dX12_answer_23 : decode cX12_answer 23 = .ok (.ifCond .ne 5, 3) := by decide +kernel
theorem dX12_answer_26 : decode cX12_answer 26 = .ok (.iconst 0, 1) := by decide +kernel
theorem dX12_answer_27 : decode cX12_answer 27 = .ok (.ireturn, 1) := by decide +kernel
theorem dX12_answer_28 : decode cX12_answer 28 = .ok (.iload_n 1, 1) := by decide +kernel
theorem dX12_answer_29 : decode cX12_answer 29 = .ok (.ifCond .eq 31, 3) := by decide +kernel
theorem dX12_answer_32 : decode cX12_answer 32 = .ok (.aload_n 0, 1) := by decide +kernel
theorem dX12_answer_33 : decode cX12_answer 33 = .ok (.dup, 1) := by decide +kernel
theorem dX12_answer_34 : decode cX12_answer 34 = .ok (.getfield 45, 3) := by decide +kernel
theorem dX12_answer_37 : decode cX12_answer 37 = .ok (.iconst 2, 1) := by decide +kernel
theorem dX12_answer_38 : decode cX12_answer 38 = .ok (.imul, 1) := by decide +kernel
theorem dX12_answer_39 : decode cX12_answer 39 = .ok (.putfield 45, 3) := by decide +kernel
theorem dX12_answer_42 : decode cX12_answer 42 = .ok (.aload_n 0, 1) := by decide +kernel
theorem dX12_answer_43 : decode cX12_answer 43 = .ok (.iconst 1, 1) := by decide +kernel
theorem dX12_answer_44 : decode cX12_answer 44 = .ok (.aload_n 0, 1) := by decide +kernel
theorem dX12_answer_45 : decode cX12_answer 45 = .ok (.getfield 149, 3) := by decide +kernel
theorem dX12_answer_48 : decode cX12_answer 48 = .ok (.isub, 1) := by decide +kernel
theorem dX12_answer_49 : decode cX12_answer 49 = .ok (.putfield 48, 3) := by decide +kernel
theorem dX12_answer_52 : decode cX12_answer 52 = .ok (.aload_n 0, 1) := by decide +kernel
theorem dX12_answer_53 : decode cX12_answer 53 = .ok (.iconst 2, 1) := by decide +kernel
theorem dX12_answer_54 : decode cX12_answer 54 = .ok (.putfield 227, 3) := by decide +kernel
theorem dX12_answer_57 : decode cX12_answer 57 = .ok (.goto 12, 3) := by decide +kernel
theorem dX12_answer_60 : decode cX12_answer 60 = .ok (.aload_n 0, 1) := by decide +kernel
theorem dX12_answer_61 : decode cX12_answer 61 = .ok (.aload_n 0, 1) := by decide +kernel
theorem dX12_answer_62 : decode cX12_answer 62 = .ok (.getfield 149, 3) := by decide +kernel
theorem dX12_answer_65 : decode cX12_answer 65 = .ok (.iconst 0, 1) := by decide +kernel
theorem dX12_answer_66 : decode cX12_answer 66 = .ok (.invokevirtual 258, 3) := by decide +kernel
theorem dX12_answer_69 : decode cX12_answer 69 = .ok (.aload_n 0, 1) := by decide +kernel
theorem dX12_answer_70 : decode cX12_answer 70 = .ok (.getfield 227, 3) := by decide +kernel
theorem dX12_answer_73 : decode cX12_answer 73 = .ok (.ireturn, 1) := by decide +kernel
theorem dX12_next_0 : decode cX12_next 0 = .ok (.aload_n 0, 1) := by decide +kernel
theorem dX12_next_1 : decode cX12_next 1 = .ok (.iconst 0, 1) := by decide +kernel
theorem dX12_next_2 : decode cX12_next 2 = .ok (.putfield 1, 3) := by decide +kernel
theorem dX12_next_5 : decode cX12_next 5 = .ok (.aload_n 0, 1) := by decide +kernel
theorem dX12_next_6 : decode cX12_next 6 = .ok (.aload_n 0, 1) := by decide +kernel
theorem dX12_next_7 : decode cX12_next 7 = .ok (.getfield 227, 3) := by decide +kernel
theorem dX12_next_10 : decode cX12_next 10 = .ok (.iconst 5, 1) := by decide +kernel
theorem dX12_next_11 : decode cX12_next 11 = .ok (.if_icmp .ne 7, 3) := by decide +kernel
theorem dX12_next_14 : decode cX12_next 14 = .ok (.iconst 1, 1) := by decide +kernel
theorem dX12_next_15 : decode cX12_next 15 = .ok (.goto 4, 3) := by decide +kernel
theorem dX12_next_18 : decode cX12_next 18 = .ok (.iconst 0, 1) := by decide +kernel
theorem dX12_next_19 : decode cX12_next 19 = .ok (.iconst 1, 1) := by decide +kernel
theorem dX12_next_20 : decode cX12_next 20 = .ok (.invokevirtual 155, 3) := by decide +kernel
theorem dX12_next_23 : decode cX12_next 23 = .ok (.ifCond .eq 7, 3) := by decide +kernel
theorem dX12_next_26 : decode cX12_next 26 = .ok (.aload_n 0, 1) := by decide +kernel
theorem dX12_next_27 : decode cX12_next 27 = .ok (.invokevirtual 281, 3) := by decide +kernel
theorem dX12_next_30 : decode cX12_next 30 = .ok (.return_, 1) := by decide +kernel
theorem dX12_match_0 : decode cX12_match 0 = .ok (.aload_n 0, 1) := by decide +kernel
theorem dX12_match_1 : decode cX12_match 1 = .ok (.iconst 0, 1) := by decide +kernel
theorem dX12_match_2 : decode cX12_match 2 = .ok (.putfield 1, 3) := by decide +kernel
theorem dX12_match_5 : decode cX12_match 5 = .ok (.aload_n 0, 1) := by decide +kernel
theorem dX12_match_6 : decode cX12_match 6 = .ok (.iload_n 1, 1) := by decide +kernel
theorem dX12_match_7 : decode cX12_match 7 = .ok (.ifCond .lt 13, 3) := by decide +kernel
theorem dX12_match_10 : decode cX12_match 10 = .ok (.iload_n 1, 1) := by decide +kernel
theorem dX12_match_11 : decode cX12_match 11 = .ok (.bipush 11, 2) := by decide +kernel
theorem dX12_match_13 : decode cX12_match 13 = .ok (.if_icmp .gt 7, 3) := by decide +kernel
theorem dX12_match_16 : decode cX12_match 16 = .ok (.iconst 1, 1) := by decide +kernel
theorem dX12_match_17 : decode cX12_match 17 = .ok (.goto 4, 3) := by decide +kernel
theorem dX12_match_20 : decode cX12_match 20 = .ok (.iconst 0, 1) := by decide +kernel
theorem dX12_match_21 : decode cX12_match 21 = .ok (.iconst 1, 1) := by decide +kernel
theorem dX12_match_22 : decode cX12_match 22 = .ok (.invokevirtual 155, 3) := by decide +kernel
theorem dX12_match_25 : decode cX12_match 25 = .ok (.ifCond .ne 5, 3) := by decide +kernel
theorem dX12_match_28 : decode cX12_match 28 = .ok (.iconst 0, 1) := by decide +kernel
theorem dX12_match_29 : decode cX12_match 29 = .ok (.ireturn, 1) := by decide +kernel
theorem dX12_match_30 : decode cX12_match 30 = .ok (.iload_n 1, 1) := by decide +kernel
theorem dX12_match_31 : decode cX12_match 31 = .ok (.tableswitch 131 0 10 #[57, 62, 62, 71, 76, 81, 94, 99, 104, 109, 114], 57) := by decide +kernel
theorem dX12_match_88 : decode cX12_match 88 = .ok (.aload_n 0, 1) := by decide +kernel
theorem dX12_match_89 : decode cX12_match 89 = .ok (.getfield 227, 3) := by decide +kernel
theorem dX12_match_92 : decode cX12_match 92 = .ok (.ireturn, 1) := by decide +kernel
theorem dX12_match_93 : decode cX12_match 93 = .ok (.aload_n 0, 1) := by decide +kernel
theorem dX12_match_94 : decode cX12_match 94 = .ok (.getfield 54, 3) := by decide +kernel
theorem dX12_match_97 : decode cX12_match 97 = .ok (.iload_n 1, 1) := by decide +kernel
theorem dX12_match_98 : decode cX12_match 98 = .ok (.iconst 1, 1) := by decide +kernel
theorem dX12_match_99 : decode cX12_match 99 = .ok (.isub, 1) := by decide +kernel
theorem dX12_match_100 : decode cX12_match 100 = .ok (.iaload, 1) := by decide +kernel
theorem dX12_match_101 : decode cX12_match 101 = .ok (.ireturn, 1) := by decide +kernel
theorem dX12_match_102 : decode cX12_match 102 = .ok (.aload_n 0, 1) := by decide +kernel
theorem dX12_match_103 : decode cX12_match 103 = .ok (.getfield 45, 3) := by decide +kernel
theorem dX12_match_106 : decode cX12_match 106 = .ok (.ireturn, 1) := by decide +kernel
theorem dX12_match_107 : decode cX12_match 107 = .ok (.aload_n 0, 1) := by decide +kernel
theorem dX12_match_108 : decode cX12_match 108 = .ok (.getfield 48, 3) := by decide +kernel
theorem dX12_match_111 : decode cX12_match 111 = .ok (.ireturn, 1) := by decide +kernel
theorem dX12_match_112 : decode cX12_match 112 = .ok (.aload_n 0, 1) := by decide +kernel
theorem dX12_match_113 : decode cX12_match 113 = .ok (.getfield 284, 3) := by decide +kernel
theorem dX12_match_116 : decode cX12_match 116 = .ok (.ifCond .eq 7, 3) := by decide +kernel
theorem dX12_match_119 : decode cX12_match 119 = .ok (.iconst 1, 1) := by decide +kernel
theorem dX12_match_120 : decode cX12_match 120 = .ok (.goto 4, 3) := by decide +kernel
theorem dX12_match_123 : decode cX12_match 123 = .ok (.iconst 0, 1) := by decide +kernel
theorem dX12_match_124 : decode cX12_match 124 = .ok (.ireturn, 1) := by decide +kernel
theorem dX12_match_125 : decode cX12_match 125 = .ok (.aload_n 0, 1) := by decide +kernel
theorem dX12_match_126 : decode cX12_match 126 = .ok (.getfield 265, 3) := by decide +kernel
theorem dX12_match_129 : decode cX12_match 129 = .ok (.ireturn, 1) := by decide +kernel
theorem dX12_match_130 : decode cX12_match 130 = .ok (.aload_n 0, 1) := by decide +kernel
theorem dX12_match_131 : decode cX12_match 131 = .ok (.getfield 268, 3) := by decide +kernel
theorem dX12_match_134 : decode cX12_match 134 = .ok (.ireturn, 1) := by decide +kernel
theorem dX12_match_135 : decode cX12_match 135 = .ok (.aload_n 0, 1) := by decide +kernel
theorem dX12_match_136 : decode cX12_match 136 = .ok (.getfield 271, 3) := by decide +kernel
theorem dX12_match_139 : decode cX12_match 139 = .ok (.ireturn, 1) := by decide +kernel
theorem dX12_match_140 : decode cX12_match 140 = .ok (.aload_n 0, 1) := by decide +kernel
theorem dX12_match_141 : decode cX12_match 141 = .ok (.getfield 51, 3) := by decide +kernel
theorem dX12_match_144 : decode cX12_match 144 = .ok (.ireturn, 1) := by decide +kernel
theorem dX12_match_145 : decode cX12_match 145 = .ok (.aload_n 0, 1) := by decide +kernel
theorem dX12_match_146 : decode cX12_match 146 = .ok (.getfield 227, 3) := by decide +kernel
theorem dX12_match_149 : decode cX12_match 149 = .ok (.iconst 3, 1) := by decide +kernel
theorem dX12_match_150 : decode cX12_match 150 = .ok (.if_icmp .ne 10, 3) := by decide +kernel
theorem dX12_match_153 : decode cX12_match 153 = .ok (.aload_n 0, 1) := by decide +kernel
theorem dX12_match_154 : decode cX12_match 154 = .ok (.getfield 230, 3) := by decide +kernel
theorem dX12_match_157 : decode cX12_match 157 = .ok (.goto 4, 3) := by decide +kernel
theorem dX12_match_160 : decode cX12_match 160 = .ok (.iconst 0, 1) := by decide +kernel
theorem dX12_match_161 : decode cX12_match 161 = .ok (.ireturn, 1) := by decide +kernel
theorem dX12_match_162 : decode cX12_match 162 = .ok (.aload_n 0, 1) := by decide +kernel
theorem dX12_match_163 : decode cX12_match 163 = .ok (.getfield 227, 3) := by decide +kernel
theorem dX12_match_166 : decode cX12_match 166 = .ok (.iconst 3, 1) := by decide +kernel
theorem dX12_match_167 : decode cX12_match 167 = .ok (.if_icmp .ne 10, 3) := by decide +kernel
theorem dX12_match_170 : decode cX12_match 170 = .ok (.aload_n 0, 1) := by decide +kernel
theorem dX12_match_171 : decode cX12_match 171 = .ok (.getfield 233, 3) := by decide +kernel
theorem dX12_match_174 : decode cX12_match 174 = .ok (.goto 4, 3) := by decide +kernel
theorem dX12_match_177 : decode cX12_match 177 = .ok (.iconst 0, 1) := by decide +kernel
theorem dX12_match_178 : decode cX12_match 178 = .ok (.ireturn, 1) := by decide +kernel
theorem dX12_feed_0 : decode cX12_feed 0 = .ok (.aload_n 0, 1) := by decide +kernel
theorem dX12_feed_1 : decode cX12_feed 1 = .ok (.iconst 0, 1) := by decide +kernel
theorem dX12_feed_2 : decode cX12_feed 2 = .ok (.putfield 1, 3) := by decide +kernel
theorem dX12_feed_5 : decode cX12_feed 5 = .ok (.aload_n 0, 1) := by decide +kernel
theorem dX12_feed_6 : decode cX12_feed 6 = .ok (.getfield 167, 3) := by decide +kernel
theorem dX12_feed_9 : decode cX12_feed 9 = .ok (.bipush 20, 2) := by decide +kernel
theorem dX12_feed_11 : decode cX12_feed 11 = .ok (.iadd, 1) := by decide +kernel
theorem dX12_feed_12 : decode cX12_feed 12 = .ok (.sipush 400, 3) := by decide +kernel
theorem dX12_feed_15 : decode cX12_feed 15 = .ok (.if_icmp .le 5, 3) := by decide +kernel
theorem dX12_feed_18 : decode cX12_feed 18 = .ok (.iconst (-1), 1) := by decide +kernel
theorem dX12_feed_19 : decode cX12_feed 19 = .ok (.ireturn, 1) := by decide +kernel
theorem dX12_feed_20 : decode cX12_feed 20 = .ok (.iconst 0, 1) := by decide +kernel
theorem dX12_feed_21 : decode cX12_feed 21 = .ok (.istore 6, 2) := by decide +kernel
theorem dX12_feed_23 : decode cX12_feed 23 = .ok (.iload 6, 2) := by decide +kernel
theorem dX12_feed_25 : decode cX12_feed 25 = .ok (.bipush 20, 2) := by decide +kernel
theorem dX12_feed_27 : decode cX12_feed 27 = .ok (.if_icmp .ge 93, 3) := by decide +kernel
theorem dX12_feed_30 : decode cX12_feed 30 = .ok (.iload 6, 2) := by decide +kernel
theorem dX12_feed_32 : decode cX12_feed 32 = .ok (.iconst 4, 1) := by decide +kernel
theorem dX12_feed_33 : decode cX12_feed 33 = .ok (.if_icmp .ge 7, 3) := by decide +kernel
theorem dX12_feed_36 : decode cX12_feed 36 = .ok (.iload_n 1, 1) := by decide +kernel
theorem dX12_feed_37 : decode cX12_feed 37 = .ok (.goto 39, 3) := by decide +kernel
theorem dX12_feed_40 : decode cX12_feed 40 = .ok (.iload 6, 2) := by decide +kernel
theorem dX12_feed_42 : decode cX12_feed 42 = .ok (.bipush 8, 2) := by decide +kernel
theorem dX12_feed_44 : decode cX12_feed 44 = .ok (.if_icmp .ge 7, 3) := by decide +kernel
theorem dX12_feed_47 : decode cX12_feed 47 = .ok (.iload_n 2, 1) := by decide +kernel
theorem dX12_feed_48 : decode cX12_feed 48 = .ok (.goto 28, 3) := by decide +kernel
theorem dX12_feed_51 : decode cX12_feed 51 = .ok (.iload 6, 2) := by decide +kernel
theorem dX12_feed_53 : decode cX12_feed 53 = .ok (.bipush 12, 2) := by decide +kernel
theorem dX12_feed_55 : decode cX12_feed 55 = .ok (.if_icmp .ge 7, 3) := by decide +kernel
theorem dX12_feed_58 : decode cX12_feed 58 = .ok (.iload_n 3, 1) := by decide +kernel
theorem dX12_feed_59 : decode cX12_feed 59 = .ok (.goto 17, 3) := by decide +kernel
theorem dX12_feed_62 : decode cX12_feed 62 = .ok (.iload 6, 2) := by decide +kernel
theorem dX12_feed_64 : decode cX12_feed 64 = .ok (.bipush 16, 2) := by decide +kernel
theorem dX12_feed_66 : decode cX12_feed 66 = .ok (.if_icmp .ge 8, 3) := by decide +kernel
theorem dX12_feed_69 : decode cX12_feed 69 = .ok (.iload 4, 2) := by decide +kernel
theorem dX12_feed_71 : decode cX12_feed 71 = .ok (.goto 5, 3) := by decide +kernel
theorem dX12_feed_74 : decode cX12_feed 74 = .ok (.iload 5, 2) := by decide +kernel
theorem dX12_feed_76 : decode cX12_feed 76 = .ok (.istore 7, 2) := by decide +kernel
theorem dX12_feed_78 : decode cX12_feed 78 = .ok (.aload_n 0, 1) := by decide +kernel
theorem dX12_feed_79 : decode cX12_feed 79 = .ok (.getfield 57, 3) := by decide +kernel
theorem dX12_feed_82 : decode cX12_feed 82 = .ok (.aload_n 0, 1) := by decide +kernel
theorem dX12_feed_83 : decode cX12_feed 83 = .ok (.getfield 167, 3) := by decide +kernel
theorem dX12_feed_86 : decode cX12_feed 86 = .ok (.iload 7, 2) := by decide +kernel
theorem dX12_feed_88 : decode cX12_feed 88 = .ok (.bipush 24, 2) := by decide +kernel
theorem dX12_feed_90 : decode cX12_feed 90 = .ok (.bipush 8, 2) := by decide +kernel
theorem dX12_feed_92 : decode cX12_feed 92 = .ok (.iload 6, 2) := by decide +kernel
theorem dX12_feed_94 : decode cX12_feed 94 = .ok (.iconst 4, 1) := by decide +kernel
theorem dX12_feed_95 : decode cX12_feed 95 = .ok (.irem, 1) := by decide +kernel
theorem dX12_feed_96 : decode cX12_feed 96 = .ok (.imul, 1) := by decide +kernel
theorem dX12_feed_97 : decode cX12_feed 97 = .ok (.isub, 1) := by decide +kernel
theorem dX12_feed_98 : decode cX12_feed 98 = .ok (.ishr, 1) := by decide +kernel
theorem dX12_feed_99 : decode cX12_feed 99 = .ok (.sipush 255, 3) := by decide +kernel
theorem dX12_feed_102 : decode cX12_feed 102 = .ok (.iand, 1) := by decide +kernel
theorem dX12_feed_103 : decode cX12_feed 103 = .ok (.iastore, 1) := by decide +kernel
theorem dX12_feed_104 : decode cX12_feed 104 = .ok (.aload_n 0, 1) := by decide +kernel
theorem dX12_feed_105 : decode cX12_feed 105 = .ok (.dup, 1) := by decide +kernel
theorem dX12_feed_106 : decode cX12_feed 106 = .ok (.getfield 167, 3) := by decide +kernel
theorem dX12_feed_109 : decode cX12_feed 109 = .ok (.iconst 1, 1) := by decide +kernel
theorem dX12_feed_110 : decode cX12_feed 110 = .ok (.iadd, 1) := by decide +kernel
theorem dX12_feed_111 : decode cX12_feed 111 = .ok (.putfield 167, 3) := by decide +kernel
theorem dX12_feed_114 : decode cX12_feed 114 = .ok (.iinc 6 1, 3) := by decide +kernel
theorem dX12_feed_117 : decode cX12_feed 117 = .ok (.goto (-94), 3) := by decide +kernel
theorem dX12_feed_120 : decode cX12_feed 120 = .ok (.aload_n 0, 1) := by decide +kernel
theorem dX12_feed_121 : decode cX12_feed 121 = .ok (.getfield 167, 3) := by decide +kernel
theorem dX12_feed_124 : decode cX12_feed 124 = .ok (.ireturn, 1) := by decide +kernel
theorem dX12_isByte_0 : decode cX12_isByte 0 = .ok (.aload_n 0, 1) := by decide +kernel
theorem dX12_isByte_1 : decode cX12_isByte 1 = .ok (.getfield 287, 3) := by decide +kernel
theorem dX12_isByte_4 : decode cX12_isByte 4 = .ok (.aload_n 0, 1) := by decide +kernel
theorem dX12_isByte_5 : decode cX12_isByte 5 = .ok (.getfield 290, 3) := by decide +kernel
theorem dX12_isByte_8 : decode cX12_isByte 8 = .ok (.if_icmp .ge 33, 3) := by decide +kernel
theorem dX12_isByte_11 : decode cX12_isByte 11 = .ok (.aload_n 0, 1) := by decide +kernel
theorem dX12_isByte_12 : decode cX12_isByte 12 = .ok (.getfield 57, 3) := by decide +kernel
theorem dX12_isByte_15 : decode cX12_isByte 15 = .ok (.aload_n 0, 1) := by decide +kernel
theorem dX12_isByte_16 : decode cX12_isByte 16 = .ok (.getfield 287, 3) := by decide +kernel
theorem dX12_isByte_19 : decode cX12_isByte 19 = .ok (.iaload, 1) := by decide +kernel
theorem dX12_isByte_20 : decode cX12_isByte 20 = .ok (.iload_n 1, 1) := by decide +kernel
theorem dX12_isByte_21 : decode cX12_isByte 21 = .ok (.if_icmp .lt 20, 3) := by decide +kernel
theorem dX12_isByte_24 : decode cX12_isByte 24 = .ok (.aload_n 0, 1) := by decide +kernel
theorem dX12_isByte_25 : decode cX12_isByte 25 = .ok (.getfield 57, 3) := by decide +kernel
theorem dX12_isByte_28 : decode cX12_isByte 28 = .ok (.aload_n 0, 1) := by decide +kernel
theorem dX12_isByte_29 : decode cX12_isByte 29 = .ok (.getfield 287, 3) := by decide +kernel
theorem dX12_isByte_32 : decode cX12_isByte 32 = .ok (.iaload, 1) := by decide +kernel
theorem dX12_isByte_33 : decode cX12_isByte 33 = .ok (.iload_n 2, 1) := by decide +kernel
theorem dX12_isByte_34 : decode cX12_isByte 34 = .ok (.if_icmp .gt 7, 3) := by decide +kernel
theorem dX12_isByte_37 : decode cX12_isByte 37 = .ok (.iconst 1, 1) := by decide +kernel
theorem dX12_isByte_38 : decode cX12_isByte 38 = .ok (.goto 4, 3) := by decide +kernel
theorem dX12_isByte_41 : decode cX12_isByte 41 = .ok (.iconst 0, 1) := by decide +kernel
theorem dX12_isByte_42 : decode cX12_isByte 42 = .ok (.ireturn, 1) := by decide +kernel
theorem dX12_go_0 : decode cX12_go 0 = .ok (.aload_n 0, 1) := by decide +kernel
theorem dX12_go_1 : decode cX12_go 1 = .ok (.getfield 287, 3) := by decide +kernel
theorem dX12_go_4 : decode cX12_go 4 = .ok (.aload_n 0, 1) := by decide +kernel
theorem dX12_go_5 : decode cX12_go 5 = .ok (.getfield 290, 3) := by decide +kernel
theorem dX12_go_8 : decode cX12_go 8 = .ok (.if_icmp .ge 44, 3) := by decide +kernel
theorem dX12_go_11 : decode cX12_go 11 = .ok (.aload_n 0, 1) := by decide +kernel
theorem dX12_go_12 : decode cX12_go 12 = .ok (.getfield 57, 3) := by decide +kernel
theorem dX12_go_15 : decode cX12_go 15 = .ok (.aload_n 0, 1) := by decide +kernel
theorem dX12_go_16 : decode cX12_go 16 = .ok (.getfield 287, 3) := by decide +kernel
theorem dX12_go_19 : decode cX12_go 19 = .ok (.iaload, 1) := by decide +kernel
theorem dX12_go_20 : decode cX12_go 20 = .ok (.bipush 32, 2) := by decide +kernel
theorem dX12_go_22 : decode cX12_go 22 = .ok (.if_icmp .eq 17, 3) := by decide +kernel
theorem dX12_go_25 : decode cX12_go 25 = .ok (.aload_n 0, 1) := by decide +kernel
theorem dX12_go_26 : decode cX12_go 26 = .ok (.getfield 57, 3) := by decide +kernel
theorem dX12_go_29 : decode cX12_go 29 = .ok (.aload_n 0, 1) := by decide +kernel
theorem dX12_go_30 : decode cX12_go 30 = .ok (.getfield 287, 3) := by decide +kernel
theorem dX12_go_33 : decode cX12_go 33 = .ok (.iaload, 1) := by decide +kernel
theorem dX12_go_34 : decode cX12_go 34 = .ok (.bipush 10, 2) := by decide +kernel
theorem dX12_go_36 : decode cX12_go 36 = .ok (.if_icmp .ne 16, 3) := by decide +kernel
theorem dX12_go_39 : decode cX12_go 39 = .ok (.aload_n 0, 1) := by decide +kernel
theorem dX12_go_40 : decode cX12_go 40 = .ok (.dup, 1) := by decide +kernel
theorem dX12_go_41 : decode cX12_go 41 = .ok (.getfield 287, 3) := by decide +kernel
theorem dX12_go_44 : decode cX12_go 44 = .ok (.iconst 1, 1) := by decide +kernel
theorem dX12_go_45 : decode cX12_go 45 = .ok (.iadd, 1) := by decide +kernel
theorem dX12_go_46 : decode cX12_go 46 = .ok (.putfield 287, 3) := by decide +kernel
theorem dX12_go_49 : decode cX12_go 49 = .ok (.goto (-49), 3) := by decide +kernel
theorem dX12_go_52 : decode cX12_go 52 = .ok (.aload_n 0, 1) := by decide +kernel
theorem dX12_go_53 : decode cX12_go 53 = .ok (.aload_n 0, 1) := by decide +kernel
theorem dX12_go_54 : decode cX12_go 54 = .ok (.getfield 287, 3) := by decide +kernel
theorem dX12_go_57 : decode cX12_go 57 = .ok (.putfield 293, 3) := by decide +kernel
theorem dX12_go_60 : decode cX12_go 60 = .ok (.aload_n 0, 1) := by decide +kernel
theorem dX12_go_61 : decode cX12_go 61 = .ok (.aload_n 0, 1) := by decide +kernel
theorem dX12_go_62 : decode cX12_go 62 = .ok (.getfield 287, 3) := by decide +kernel
theorem dX12_go_65 : decode cX12_go 65 = .ok (.aload_n 0, 1) := by decide +kernel
theorem dX12_go_66 : decode cX12_go 66 = .ok (.getfield 290, 3) := by decide +kernel
theorem dX12_go_69 : decode cX12_go 69 = .ok (.if_icmp .ge 15, 3) := by decide +kernel
theorem dX12_go_72 : decode cX12_go 72 = .ok (.aload_n 0, 1) := by decide +kernel
theorem dX12_go_73 : decode cX12_go 73 = .ok (.getfield 57, 3) := by decide +kernel
theorem dX12_go_76 : decode cX12_go 76 = .ok (.aload_n 0, 1) := by decide +kernel
theorem dX12_go_77 : decode cX12_go 77 = .ok (.getfield 287, 3) := by decide +kernel
theorem dX12_go_80 : decode cX12_go 80 = .ok (.iaload, 1) := by decide +kernel
theorem dX12_go_81 : decode cX12_go 81 = .ok (.goto 4, 3) := by decide +kernel
theorem dX12_go_84 : decode cX12_go 84 = .ok (.iconst 0, 1) := by decide +kernel
theorem dX12_go_85 : decode cX12_go 85 = .ok (.putfield 296, 3) := by decide +kernel
theorem dX12_go_88 : decode cX12_go 88 = .ok (.aload_n 0, 1) := by decide +kernel
theorem dX12_go_89 : decode cX12_go 89 = .ok (.aload_n 0, 1) := by decide +kernel
theorem dX12_go_90 : decode cX12_go 90 = .ok (.getfield 287, 3) := by decide +kernel
theorem dX12_go_93 : decode cX12_go 93 = .ok (.aload_n 0, 1) := by decide +kernel
theorem dX12_go_94 : decode cX12_go 94 = .ok (.getfield 290, 3) := by decide +kernel
theorem dX12_go_97 : decode cX12_go 97 = .ok (.if_icmp .lt 7, 3) := by decide +kernel
theorem dX12_go_100 : decode cX12_go 100 = .ok (.iconst 0, 1) := by decide +kernel
theorem dX12_go_101 : decode cX12_go 101 = .ok (.goto 49, 3) := by decide +kernel
theorem dX12_go_104 : decode cX12_go 104 = .ok (.aload_n 0, 1) := by decide +kernel
theorem dX12_go_105 : decode cX12_go 105 = .ok (.bipush 48, 2) := by decide +kernel
theorem dX12_go_107 : decode cX12_go 107 = .ok (.bipush 57, 2) := by decide +kernel
theorem dX12_go_109 : decode cX12_go 109 = .ok (.invokevirtual 299, 3) := by decide +kernel
theorem dX12_go_112 : decode cX12_go 112 = .ok (.ifCond .eq 7, 3) := by decide +kernel
theorem dX12_go_115 : decode cX12_go 115 = .ok (.iconst 2, 1) := by decide +kernel
theorem dX12_go_116 : decode cX12_go 116 = .ok (.goto 34, 3) := by decide +kernel
theorem dX12_go_119 : decode cX12_go 119 = .ok (.aload_n 0, 1) := by decide +kernel
theorem dX12_go_120 : decode cX12_go 120 = .ok (.bipush 97, 2) := by decide +kernel
theorem dX12_go_122 : decode cX12_go 122 = .ok (.bipush 122, 2) := by decide +kernel
theorem dX12_go_124 : decode cX12_go 124 = .ok (.invokevirtual 299, 3) := by decide +kernel
theorem dX12_go_127 : decode cX12_go 127 = .ok (.ifCond .eq 7, 3) := by decide +kernel
theorem dX12_go_130 : decode cX12_go 130 = .ok (.iconst 3, 1) := by decide +kernel
theorem dX12_go_131 : decode cX12_go 131 = .ok (.goto 19, 3) := by decide +kernel
theorem dX12_go_134 : decode cX12_go 134 = .ok (.aload_n 0, 1) := by decide +kernel
theorem dX12_go_135 : decode cX12_go 135 = .ok (.bipush 33, 2) := by decide +kernel
theorem dX12_go_137 : decode cX12_go 137 = .ok (.bipush 126, 2) := by decide +kernel
theorem dX12_go_139 : decode cX12_go 139 = .ok (.invokevirtual 299, 3) := by decide +kernel
theorem dX12_go_142 : decode cX12_go 142 = .ok (.ifCond .eq 7, 3) := by decide +kernel
theorem dX12_go_145 : decode cX12_go 145 = .ok (.iconst 4, 1) := by decide +kernel
theorem dX12_go_146 : decode cX12_go 146 = .ok (.goto 4, 3) := by decide +kernel
theorem dX12_go_149 : decode cX12_go 149 = .ok (.iconst 1, 1) := by decide +kernel
theorem dX12_go_150 : decode cX12_go 150 = .ok (.putfield 302, 3) := by decide +kernel
theorem dX12_go_153 : decode cX12_go 153 = .ok (.aload_n 0, 1) := by decide +kernel
theorem dX12_go_154 : decode cX12_go 154 = .ok (.getfield 302, 3) := by decide +kernel
theorem dX12_go_157 : decode cX12_go 157 = .ok (.iconst 2, 1) := by decide +kernel
theorem dX12_go_158 : decode cX12_go 158 = .ok (.if_icmp .ne 74, 3) := by decide +kernel
theorem dX12_go_161 : decode cX12_go 161 = .ok (.aload_n 0, 1) := by decide +kernel
theorem dX12_go_162 : decode cX12_go 162 = .ok (.iconst 0, 1) := by decide +kernel
theorem dX12_go_163 : decode cX12_go 163 = .ok (.putfield 296, 3) := by decide +kernel
theorem dX12_go_166 : decode cX12_go 166 = .ok (.aload_n 0, 1) := by decide +kernel
theorem dX12_go_167 : decode cX12_go 167 = .ok (.bipush 48, 2) := by decide +kernel
theorem dX12_go_169 : decode cX12_go 169 = .ok (.bipush 57, 2) := by decide +kernel
theorem dX12_go_171 : decode cX12_go 171 = .ok (.invokevirtual 299, 3) := by decide +kernel
theorem dX12_go_174 : decode cX12_go 174 = .ok (.ifCond .eq 165, 3) := by decide +kernel
theorem dX12_go_177 : decode cX12_go 177 = .ok (.aload_n 0, 1) := by decide +kernel
theorem dX12_go_178 : decode cX12_go 178 = .ok (.aload_n 0, 1) := by decide +kernel
theorem dX12_go_179 : decode cX12_go 179 = .ok (.getfield 287, 3) := by decide +kernel
theorem dX12_go_182 : decode cX12_go 182 = .ok (.aload_n 0, 1) := by decide +kernel
theorem dX12_go_183 : decode cX12_go 183 = .ok (.getfield 293, 3) := by decide +kernel
theorem dX12_go_186 : decode cX12_go 186 = .ok (.isub, 1) := by decide +kernel
theorem dX12_go_187 : decode cX12_go 187 = .ok (.iconst 2, 1) := by decide +kernel
theorem dX12_go_188 : decode cX12_go 188 = .ok (.if_icmp .ge 26, 3) := by decide +kernel
theorem dX12_go_191 : decode cX12_go 191 = .ok (.bipush 10, 2) := by decide +kernel
theorem dX12_go_193 : decode cX12_go 193 = .ok (.aload_n 0, 1) := by decide +kernel
theorem dX12_go_194 : decode cX12_go 194 = .ok (.getfield 296, 3) := by decide +kernel
theorem dX12_go_197 : decode cX12_go 197 = .ok (.imul, 1) := by decide +kernel
theorem dX12_go_198 : decode cX12_go 198 = .ok (.aload_n 0, 1) := by decide +kernel
theorem dX12_go_199 : decode cX12_go 199 = .ok (.getfield 57, 3) := by decide +kernel
theorem dX12_go_202 : decode cX12_go 202 = .ok (.aload_n 0, 1) := by decide +kernel
theorem dX12_go_203 : decode cX12_go 203 = .ok (.getfield 287, 3) := by decide +kernel
theorem dX12_go_206 : decode cX12_go 206 = .ok (.iaload, 1) := by decide +kernel
theorem dX12_go_207 : decode cX12_go 207 = .ok (.iadd, 1) := by decide +kernel
theorem dX12_go_208 : decode cX12_go 208 = .ok (.bipush 48, 2) := by decide +kernel
theorem dX12_go_210 : decode cX12_go 210 = .ok (.isub, 1) := by decide +kernel
theorem dX12_go_211 : decode cX12_go 211 = .ok (.goto 5, 3) := by decide +kernel
theorem dX12_go_214 : decode cX12_go 214 = .ok (.bipush 100, 2) := by decide +kernel
theorem dX12_go_216 : decode cX12_go 216 = .ok (.putfield 296, 3) := by decide +kernel
theorem dX12_go_219 : decode cX12_go 219 = .ok (.aload_n 0, 1) := by decide +kernel
theorem dX12_go_220 : decode cX12_go 220 = .ok (.dup, 1) := by decide +kernel
theorem dX12_go_221 : decode cX12_go 221 = .ok (.getfield 287, 3) := by decide +kernel
theorem dX12_go_224 : decode cX12_go 224 = .ok (.iconst 1, 1) := by decide +kernel
theorem dX12_go_225 : decode cX12_go 225 = .ok (.iadd, 1) := by decide +kernel
theorem dX12_go_226 : decode cX12_go 226 = .ok (.putfield 287, 3) := by decide +kernel
theorem dX12_go_229 : decode cX12_go 229 = .ok (.goto (-63), 3) := by decide +kernel
theorem dX12_go_232 : decode cX12_go 232 = .ok (.aload_n 0, 1) := by decide +kernel
theorem dX12_go_233 : decode cX12_go 233 = .ok (.getfield 302, 3) := by decide +kernel
theorem dX12_go_236 : decode cX12_go 236 = .ok (.iconst 3, 1) := by decide +kernel
theorem dX12_go_237 : decode cX12_go 237 = .ok (.if_icmp .ne 92, 3) := by decide +kernel
theorem dX12_go_240 : decode cX12_go 240 = .ok (.iconst 0, 1) := by decide +kernel
theorem dX12_go_241 : decode cX12_go 241 = .ok (.istore_n 1, 1) := by decide +kernel
theorem dX12_go_242 : decode cX12_go 242 = .ok (.aload_n 0, 1) := by decide +kernel
theorem dX12_go_243 : decode cX12_go 243 = .ok (.bipush 97, 2) := by decide +kernel
theorem dX12_go_245 : decode cX12_go 245 = .ok (.bipush 122, 2) := by decide +kernel
theorem dX12_go_247 : decode cX12_go 247 = .ok (.invokevirtual 299, 3) := by decide +kernel
theorem dX12_go_250 : decode cX12_go 250 = .ok (.ifCond .eq 49, 3) := by decide +kernel
theorem dX12_go_253 : decode cX12_go 253 = .ok (.aload_n 0, 1) := by decide +kernel
theorem dX12_go_254 : decode cX12_go 254 = .ok (.getfield 287, 3) := by decide +kernel
theorem dX12_go_257 : decode cX12_go 257 = .ok (.aload_n 0, 1) := by decide +kernel
theorem dX12_go_258 : decode cX12_go 258 = .ok (.getfield 293, 3) := by decide +kernel
theorem dX12_go_261 : decode cX12_go 261 = .ok (.isub, 1) := by decide +kernel
theorem dX12_go_262 : decode cX12_go 262 = .ok (.iconst 3, 1) := by decide +kernel
theorem dX12_go_263 : decode cX12_go 263 = .ok (.if_icmp .ge 21, 3) := by decide +kernel
theorem dX12_go_266 : decode cX12_go 266 = .ok (.sipush 256, 3) := by decide +kernel
theorem dX12_go_269 : decode cX12_go 269 = .ok (.iload_n 1, 1) := by decide +kernel
theorem dX12_go_270 : decode cX12_go 270 = .ok (.imul, 1) := by decide +kernel
theorem dX12_go_271 : decode cX12_go 271 = .ok (.aload_n 0, 1) := by decide +kernel
theorem dX12_go_272 : decode cX12_go 272 = .ok (.getfield 57, 3) := by decide +kernel
theorem dX12_go_275 : decode cX12_go 275 = .ok (.aload_n 0, 1) := by decide +kernel
theorem dX12_go_276 : decode cX12_go 276 = .ok (.getfield 287, 3) := by decide +kernel
theorem dX12_go_279 : decode cX12_go 279 = .ok (.iaload, 1) := by decide +kernel
theorem dX12_go_280 : decode cX12_go 280 = .ok (.iadd, 1) := by decide +kernel
theorem dX12_go_281 : decode cX12_go 281 = .ok (.goto 4, 3) := by decide +kernel
theorem dX12_go_284 : decode cX12_go 284 = .ok (.iconst 0, 1) := by decide +kernel
theorem dX12_go_285 : decode cX12_go 285 = .ok (.istore_n 1, 1) := by decide +kernel
theorem dX12_go_286 : decode cX12_go 286 = .ok (.aload_n 0, 1) := by decide +kernel
theorem dX12_go_287 : decode cX12_go 287 = .ok (.dup, 1) := by decide +kernel
theorem dX12_go_288 : decode cX12_go 288 = .ok (.getfield 287, 3) := by decide +kernel
theorem dX12_go_291 : decode cX12_go 291 = .ok (.iconst 1, 1) := by decide +kernel
theorem dX12_go_292 : decode cX12_go 292 = .ok (.iadd, 1) := by decide +kernel
theorem dX12_go_293 : decode cX12_go 293 = .ok (.putfield 287, 3) := by decide +kernel
theorem dX12_go_296 : decode cX12_go 296 = .ok (.goto (-54), 3) := by decide +kernel
theorem dX12_go_299 : decode cX12_go 299 = .ok (.aload_n 0, 1) := by decide +kernel
theorem dX12_go_300 : decode cX12_go 300 = .ok (.iload_n 1, 1) := by decide +kernel
theorem dX12_go_301 : decode cX12_go 301 = .ok (.ldc_w 305, 3) := by decide +kernel
theorem dX12_go_304 : decode cX12_go 304 = .ok (.if_icmp .ne 7, 3) := by decide +kernel
theorem dX12_go_307 : decode cX12_go 307 = .ok (.iconst 1, 1) := by decide +kernel
theorem dX12_go_308 : decode cX12_go 308 = .ok (.goto 15, 3) := by decide +kernel
theorem dX12_go_311 : decode cX12_go 311 = .ok (.iload_n 1, 1) := by decide +kernel
theorem dX12_go_312 : decode cX12_go 312 = .ok (.ldc_w 306, 3) := by decide +kernel
theorem dX12_go_315 : decode cX12_go 315 = .ok (.if_icmp .ne 7, 3) := by decide +kernel
theorem dX12_go_318 : decode cX12_go 318 = .ok (.iconst 2, 1) := by decide +kernel
theorem dX12_go_319 : decode cX12_go 319 = .ok (.goto 4, 3) := by decide +kernel
theorem dX12_go_322 : decode cX12_go 322 = .ok (.iconst 0, 1) := by decide +kernel
theorem dX12_go_323 : decode cX12_go 323 = .ok (.putfield 296, 3) := by decide +kernel
theorem dX12_go_326 : decode cX12_go 326 = .ok (.goto 13, 3) := by decide +kernel
theorem dX12_go_329 : decode cX12_go 329 = .ok (.aload_n 0, 1) := by decide +kernel
theorem dX12_go_330 : decode cX12_go 330 = .ok (.dup, 1) := by decide +kernel
theorem dX12_go_331 : decode cX12_go 331 = .ok (.getfield 287, 3) := by decide +kernel
theorem dX12_go_334 : decode cX12_go 334 = .ok (.iconst 1, 1) := by decide +kernel
theorem dX12_go_335 : decode cX12_go 335 = .ok (.iadd, 1) := by decide +kernel
theorem dX12_go_336 : decode cX12_go 336 = .ok (.putfield 287, 3) := by decide +kernel
theorem dX12_go_339 : decode cX12_go 339 = .ok (.return_, 1) := by decide +kernel
theorem dX12_wrong_0 : decode cX12_wrong 0 = .ok (.aload_n 0, 1) := by decide +kernel
theorem dX12_wrong_1 : decode cX12_wrong 1 = .ok (.getfield 307, 3) := by decide +kernel
theorem dX12_wrong_4 : decode cX12_wrong 4 = .ok (.ifCond .eq 4, 3) := by decide +kernel
theorem dX12_wrong_7 : decode cX12_wrong 7 = .ok (.return_, 1) := by decide +kernel
theorem dX12_wrong_8 : decode cX12_wrong 8 = .ok (.aload_n 0, 1) := by decide +kernel
theorem dX12_wrong_9 : decode cX12_wrong 9 = .ok (.iload_n 1, 1) := by decide +kernel
theorem dX12_wrong_10 : decode cX12_wrong 10 = .ok (.putfield 307, 3) := by decide +kernel
theorem dX12_wrong_13 : decode cX12_wrong 13 = .ok (.aload_n 0, 1) := by decide +kernel
theorem dX12_wrong_14 : decode cX12_wrong 14 = .ok (.iload_n 2, 1) := by decide +kernel
theorem dX12_wrong_15 : decode cX12_wrong 15 = .ok (.putfield 60, 3) := by decide +kernel
theorem dX12_wrong_18 : decode cX12_wrong 18 = .ok (.return_, 1) := by decide +kernel
theorem dX12_fine_0 : decode cX12_fine 0 = .ok (.aload_n 0, 1) := by decide +kernel
theorem dX12_fine_1 : decode cX12_fine 1 = .ok (.getfield 307, 3) := by decide +kernel
theorem dX12_fine_4 : decode cX12_fine 4 = .ok (.ifCond .ne 7, 3) := by decide +kernel
theorem dX12_fine_7 : decode cX12_fine 7 = .ok (.iconst 1, 1) := by decide +kernel
theorem dX12_fine_8 : decode cX12_fine 8 = .ok (.goto 4, 3) := by decide +kernel
theorem dX12_fine_11 : decode cX12_fine 11 = .ok (.iconst 0, 1) := by decide +kernel
theorem dX12_fine_12 : decode cX12_fine 12 = .ok (.ireturn, 1) := by decide +kernel
theorem dX12_is_0 : decode cX12_is 0 = .ok (.aload_n 0, 1) := by decide +kernel
theorem dX12_is_1 : decode cX12_is 1 = .ok (.invokevirtual 310, 3) := by decide +kernel
theorem dX12_is_4 : decode cX12_is 4 = .ok (.ifCond .eq 23, 3) := by decide +kernel
theorem dX12_is_7 : decode cX12_is 7 = .ok (.aload_n 0, 1) := by decide +kernel
theorem dX12_is_8 : decode cX12_is 8 = .ok (.getfield 302, 3) := by decide +kernel
theorem dX12_is_11 : decode cX12_is 11 = .ok (.iconst 4, 1) := by decide +kernel
theorem dX12_is_12 : decode cX12_is 12 = .ok (.if_icmp .ne 15, 3) := by decide +kernel
theorem dX12_is_15 : decode cX12_is 15 = .ok (.aload_n 0, 1) := by decide +kernel
theorem dX12_is_16 : decode cX12_is 16 = .ok (.getfield 296, 3) := by decide +kernel
theorem dX12_is_19 : decode cX12_is 19 = .ok (.iload_n 1, 1) := by decide +kernel
theorem dX12_is_20 : decode cX12_is 20 = .ok (.if_icmp .ne 7, 3) := by decide +kernel
theorem dX12_is_23 : decode cX12_is 23 = .ok (.iconst 1, 1) := by decide +kernel
theorem dX12_is_24 : decode cX12_is 24 = .ok (.goto 4, 3) := by decide +kernel
theorem dX12_is_27 : decode cX12_is 27 = .ok (.iconst 0, 1) := by decide +kernel
theorem dX12_is_28 : decode cX12_is 28 = .ok (.ireturn, 1) := by decide +kernel
theorem dX12_need_0 : decode cX12_need 0 = .ok (.aload_n 0, 1) := by decide +kernel
theorem dX12_need_1 : decode cX12_need 1 = .ok (.iload_n 1, 1) := by decide +kernel
theorem dX12_need_2 : decode cX12_need 2 = .ok (.invokevirtual 313, 3) := by decide +kernel
theorem dX12_need_5 : decode cX12_need 5 = .ok (.ifCond .eq 10, 3) := by decide +kernel
theorem dX12_need_8 : decode cX12_need 8 = .ok (.aload_n 0, 1) := by decide +kernel
theorem dX12_need_9 : decode cX12_need 9 = .ok (.invokevirtual 316, 3) := by decide +kernel
theorem dX12_need_12 : decode cX12_need 12 = .ok (.goto 12, 3) := by decide +kernel
theorem dX12_need_15 : decode cX12_need 15 = .ok (.aload_n 0, 1) := by decide +kernel
theorem dX12_need_16 : decode cX12_need 16 = .ok (.iconst 1, 1) := by decide +kernel
theorem dX12_need_17 : decode cX12_need 17 = .ok (.aload_n 0, 1) := by decide +kernel
theorem dX12_need_18 : decode cX12_need 18 = .ok (.getfield 293, 3) := by decide +kernel
theorem dX12_need_21 : decode cX12_need 21 = .ok (.invokevirtual 319, 3) := by decide +kernel
theorem dX12_need_24 : decode cX12_need 24 = .ok (.return_, 1) := by decide +kernel
theorem dX12_isNumber_0 : decode cX12_isNumber 0 = .ok (.aload_n 0, 1) := by decide +kernel
theorem dX12_isNumber_1 : decode cX12_isNumber 1 = .ok (.invokevirtual 310, 3) := by decide +kernel
theorem dX12_isNumber_4 : decode cX12_isNumber 4 = .ok (.ifCond .ne 4, 3) := by decide +kernel
theorem dX12_isNumber_7 : decode cX12_isNumber 7 = .ok (.return_, 1) := by decide +kernel
theorem dX12_isNumber_8 : decode cX12_isNumber 8 = .ok (.aload_n 0, 1) := by decide +kernel
theorem dX12_isNumber_9 : decode cX12_isNumber 9 = .ok (.getfield 302, 3) := by decide +kernel
theorem dX12_isNumber_12 : decode cX12_isNumber 12 = .ok (.iconst 2, 1) := by decide +kernel
theorem dX12_isNumber_13 : decode cX12_isNumber 13 = .ok (.if_icmp .eq 15, 3) := by decide +kernel
theorem dX12_isNumber_16 : decode cX12_isNumber 16 = .ok (.aload_n 0, 1) := by decide +kernel
theorem dX12_isNumber_17 : decode cX12_isNumber 17 = .ok (.iconst 1, 1) := by decide +kernel
theorem dX12_isNumber_18 : decode cX12_isNumber 18 = .ok (.aload_n 0, 1) := by decide +kernel
theorem dX12_isNumber_19 : decode cX12_isNumber 19 = .ok (.getfield 293, 3) := by decide +kernel
theorem dX12_isNumber_22 : decode cX12_isNumber 22 = .ok (.invokevirtual 319, 3) := by decide +kernel
theorem dX12_isNumber_25 : decode cX12_isNumber 25 = .ok (.goto 28, 3) := by decide +kernel
theorem dX12_isNumber_28 : decode cX12_isNumber 28 = .ok (.aload_n 0, 1) := by decide +kernel
theorem dX12_isNumber_29 : decode cX12_isNumber 29 = .ok (.getfield 296, 3) := by decide +kernel
theorem dX12_isNumber_32 : decode cX12_isNumber 32 = .ok (.iload_n 1, 1) := by decide +kernel
theorem dX12_isNumber_33 : decode cX12_isNumber 33 = .ok (.if_icmp .lt 11, 3) := by decide +kernel
theorem dX12_isNumber_36 : decode cX12_isNumber 36 = .ok (.aload_n 0, 1) := by decide +kernel
theorem dX12_isNumber_37 : decode cX12_isNumber 37 = .ok (.getfield 296, 3) := by decide +kernel
theorem dX12_isNumber_40 : decode cX12_isNumber 40 = .ok (.iload_n 2, 1) := by decide +kernel
theorem dX12_isNumber_41 : decode cX12_isNumber 41 = .ok (.if_icmp .le 12, 3) := by decide +kernel
theorem dX12_isNumber_44 : decode cX12_isNumber 44 = .ok (.aload_n 0, 1) := by decide +kernel
theorem dX12_isNumber_45 : decode cX12_isNumber 45 = .ok (.iconst 2, 1) := by decide +kernel
theorem dX12_isNumber_46 : decode cX12_isNumber 46 = .ok (.aload_n 0, 1) := by decide +kernel
theorem dX12_isNumber_47 : decode cX12_isNumber 47 = .ok (.getfield 293, 3) := by decide +kernel
theorem dX12_isNumber_50 : decode cX12_isNumber 50 = .ok (.invokevirtual 319, 3) := by decide +kernel
theorem dX12_isNumber_53 : decode cX12_isNumber 53 = .ok (.return_, 1) := by decide +kernel
theorem dX12_beginText_0 : decode cX12_beginText 0 = .ok (.aload_n 0, 1) := by decide +kernel
theorem dX12_beginText_1 : decode cX12_beginText 1 = .ok (.iload_n 1, 1) := by decide +kernel
theorem dX12_beginText_2 : decode cX12_beginText 2 = .ok (.putfield 290, 3) := by decide +kernel
theorem dX12_beginText_5 : decode cX12_beginText 5 = .ok (.aload_n 0, 1) := by decide +kernel
theorem dX12_beginText_6 : decode cX12_beginText 6 = .ok (.iconst 0, 1) := by decide +kernel
theorem dX12_beginText_7 : decode cX12_beginText 7 = .ok (.putfield 167, 3) := by decide +kernel
theorem dX12_beginText_10 : decode cX12_beginText 10 = .ok (.aload_n 0, 1) := by decide +kernel
theorem dX12_beginText_11 : decode cX12_beginText 11 = .ok (.iconst 0, 1) := by decide +kernel
theorem dX12_beginText_12 : decode cX12_beginText 12 = .ok (.putfield 287, 3) := by decide +kernel
theorem dX12_beginText_15 : decode cX12_beginText 15 = .ok (.aload_n 0, 1) := by decide +kernel
theorem dX12_beginText_16 : decode cX12_beginText 16 = .ok (.iconst 0, 1) := by decide +kernel
theorem dX12_beginText_17 : decode cX12_beginText 17 = .ok (.putfield 307, 3) := by decide +kernel
theorem dX12_beginText_20 : decode cX12_beginText 20 = .ok (.aload_n 0, 1) := by decide +kernel
theorem dX12_beginText_21 : decode cX12_beginText 21 = .ok (.iconst (-1), 1) := by decide +kernel
theorem dX12_beginText_22 : decode cX12_beginText 22 = .ok (.putfield 60, 3) := by decide +kernel
theorem dX12_beginText_25 : decode cX12_beginText 25 = .ok (.aload_n 0, 1) := by decide +kernel
theorem dX12_beginText_26 : decode cX12_beginText 26 = .ok (.invokevirtual 316, 3) := by decide +kernel
theorem dX12_beginText_29 : decode cX12_beginText 29 = .ok (.return_, 1) := by decide +kernel
theorem dX12_fault_0 : decode cX12_fault 0 = .ok (.aload_n 0, 1) := by decide +kernel
theorem dX12_fault_1 : decode cX12_fault 1 = .ok (.iconst 0, 1) := by decide +kernel
theorem dX12_fault_2 : decode cX12_fault 2 = .ok (.putfield 1, 3) := by decide +kernel
theorem dX12_fault_5 : decode cX12_fault 5 = .ok (.aload_n 0, 1) := by decide +kernel
theorem dX12_fault_6 : decode cX12_fault 6 = .ok (.getfield 60, 3) := by decide +kernel
theorem dX12_fault_9 : decode cX12_fault 9 = .ok (.ireturn, 1) := by decide +kernel
theorem dX12_position_0 : decode cX12_position 0 = .ok (.aload_n 0, 1) := by decide +kernel
theorem dX12_position_1 : decode cX12_position 1 = .ok (.iconst 0, 1) := by decide +kernel
theorem dX12_position_2 : decode cX12_position 2 = .ok (.putfield 1, 3) := by decide +kernel
theorem dX12_position_5 : decode cX12_position 5 = .ok (.aload_n 0, 1) := by decide +kernel
theorem dX12_position_6 : decode cX12_position 6 = .ok (.iload_n 1, 1) := by decide +kernel
theorem dX12_position_7 : decode cX12_position 7 = .ok (.ifCond .lt 15, 3) := by decide +kernel
theorem dX12_position_10 : decode cX12_position 10 = .ok (.iload_n 1, 1) := by decide +kernel
theorem dX12_position_11 : decode cX12_position 11 = .ok (.aload_n 0, 1) := by decide +kernel
theorem dX12_position_12 : decode cX12_position 12 = .ok (.getfield 167, 3) := by decide +kernel
theorem dX12_position_15 : decode cX12_position 15 = .ok (.if_icmp .gt 7, 3) := by decide +kernel
theorem dX12_position_18 : decode cX12_position 18 = .ok (.iconst 1, 1) := by decide +kernel
theorem dX12_position_19 : decode cX12_position 19 = .ok (.goto 4, 3) := by decide +kernel
theorem dX12_position_22 : decode cX12_position 22 = .ok (.iconst 0, 1) := by decide +kernel
theorem dX12_position_23 : decode cX12_position 23 = .ok (.iconst 1, 1) := by decide +kernel
theorem dX12_position_24 : decode cX12_position 24 = .ok (.invokevirtual 155, 3) := by decide +kernel
theorem dX12_position_27 : decode cX12_position 27 = .ok (.ifCond .eq 23, 3) := by decide +kernel
theorem dX12_position_30 : decode cX12_position 30 = .ok (.aload_n 0, 1) := by decide +kernel
theorem dX12_position_31 : decode cX12_position 31 = .ok (.aload_n 0, 1) := by decide +kernel
theorem dX12_position_32 : decode cX12_position 32 = .ok (.invokevirtual 252, 3) := by decide +kernel
theorem dX12_position_35 : decode cX12_position 35 = .ok (.ifCond .ne 7, 3) := by decide +kernel
theorem dX12_position_38 : decode cX12_position 38 = .ok (.iconst 1, 1) := by decide +kernel
theorem dX12_position_39 : decode cX12_position 39 = .ok (.goto 4, 3) := by decide +kernel
theorem dX12_position_42 : decode cX12_position 42 = .ok (.iconst 0, 1) := by decide +kernel
theorem dX12_position_43 : decode cX12_position 43 = .ok (.iconst 2, 1) := by decide +kernel
theorem dX12_position_44 : decode cX12_position 44 = .ok (.invokevirtual 155, 3) := by decide +kernel
theorem dX12_position_47 : decode cX12_position 47 = .ok (.ifCond .ne 5, 3) := by decide +kernel
theorem dX12_position_50 : decode cX12_position 50 = .ok (.iconst 0, 1) := by decide +kernel
theorem dX12_position_51 : decode cX12_position 51 = .ok (.ireturn, 1) := by decide +kernel
theorem dX12_position_52 : decode cX12_position 52 = .ok (.aload_n 0, 1) := by decide +kernel
theorem dX12_position_53 : decode cX12_position 53 = .ok (.iload_n 1, 1) := by decide +kernel
theorem dX12_position_54 : decode cX12_position 54 = .ok (.invokevirtual 322, 3) := by decide +kernel
theorem dX12_position_57 : decode cX12_position 57 = .ok (.iconst 0, 1) := by decide +kernel
theorem dX12_position_58 : decode cX12_position 58 = .ok (.istore_n 2, 1) := by decide +kernel
theorem dX12_position_59 : decode cX12_position 59 = .ok (.iload_n 2, 1) := by decide +kernel
theorem dX12_position_60 : decode cX12_position 60 = .ok (.bipush 52, 2) := by decide +kernel
theorem dX12_position_62 : decode cX12_position 62 = .ok (.if_icmp .ge 16, 3) := by decide +kernel
theorem dX12_position_65 : decode cX12_position 65 = .ok (.aload_n 0, 1) := by decide +kernel
theorem dX12_position_66 : decode cX12_position 66 = .ok (.getfield 63, 3) := by decide +kernel
theorem dX12_position_69 : decode cX12_position 69 = .ok (.iload_n 2, 1) := by decide +kernel
theorem dX12_position_70 : decode cX12_position 70 = .ok (.iconst 0, 1) := by decide +kernel
theorem dX12_position_71 : decode cX12_position 71 = .ok (.iastore, 1) := by decide +kernel
theorem dX12_position_72 : decode cX12_position 72 = .ok (.iinc 2 1, 3) := by decide +kernel
theorem dX12_position_75 : decode cX12_position 75 = .ok (.goto (-16), 3) := by decide +kernel
theorem dX12_position_78 : decode cX12_position 78 = .ok (.aload_n 0, 1) := by decide +kernel
theorem dX12_position_79 : decode cX12_position 79 = .ok (.iconst 0, 1) := by decide +kernel
theorem dX12_position_80 : decode cX12_position 80 = .ok (.invokevirtual 325, 3) := by decide +kernel
theorem dX12_position_83 : decode cX12_position 83 = .ok (.aload_n 0, 1) := by decide +kernel
theorem dX12_position_84 : decode cX12_position 84 = .ok (.bipush 59, 2) := by decide +kernel
theorem dX12_position_86 : decode cX12_position 86 = .ok (.invokevirtual 328, 3) := by decide +kernel
theorem dX12_position_89 : decode cX12_position 89 = .ok (.aload_n 0, 1) := by decide +kernel
theorem dX12_position_90 : decode cX12_position 90 = .ok (.iconst 1, 1) := by decide +kernel
theorem dX12_position_91 : decode cX12_position 91 = .ok (.invokevirtual 325, 3) := by decide +kernel
theorem dX12_position_94 : decode cX12_position 94 = .ok (.aload_n 0, 1) := by decide +kernel
theorem dX12_position_95 : decode cX12_position 95 = .ok (.bipush 59, 2) := by decide +kernel
theorem dX12_position_97 : decode cX12_position 97 = .ok (.invokevirtual 328, 3) := by decide +kernel
theorem dX12_position_100 : decode cX12_position 100 = .ok (.aload_n 0, 1) := by decide +kernel
theorem dX12_position_101 : decode cX12_position 101 = .ok (.iconst 0, 1) := by decide +kernel
theorem dX12_position_102 : decode cX12_position 102 = .ok (.iconst 1, 1) := by decide +kernel
theorem dX12_position_103 : decode cX12_position 103 = .ok (.invokevirtual 331, 3) := by decide +kernel
theorem dX12_position_106 : decode cX12_position 106 = .ok (.aload_n 0, 1) := by decide +kernel
theorem dX12_position_107 : decode cX12_position 107 = .ok (.getfield 296, 3) := by decide +kernel
theorem dX12_position_110 : decode cX12_position 110 = .ok (.istore_n 2, 1) := by decide +kernel
theorem dX12_position_111 : decode cX12_position 111 = .ok (.iconst 0, 1) := by decide +kernel
theorem dX12_position_112 : decode cX12_position 112 = .ok (.istore_n 3, 1) := by decide +kernel
theorem dX12_position_113 : decode cX12_position 113 = .ok (.iconst 0, 1) := by decide +kernel
theorem dX12_position_114 : decode cX12_position 114 = .ok (.istore 4, 2) := by decide +kernel
theorem dX12_position_116 : decode cX12_position 116 = .ok (.iconst 1, 1) := by decide +kernel
theorem dX12_position_117 : decode cX12_position 117 = .ok (.istore 5, 2) := by decide +kernel
theorem dX12_position_119 : decode cX12_position 119 = .ok (.iload 5, 2) := by decide +kernel
theorem dX12_position_121 : decode cX12_position 121 = .ok (.bipush 26, 2) := by decide +kernel
theorem dX12_position_123 : decode cX12_position 123 = .ok (.if_icmp .ge 34, 3) := by decide +kernel
theorem dX12_position_126 : decode cX12_position 126 = .ok (.iload_n 3, 1) := by decide +kernel
theorem dX12_position_127 : decode cX12_position 127 = .ok (.aload_n 0, 1) := by decide +kernel
theorem dX12_position_128 : decode cX12_position 128 = .ok (.getfield 63, 3) := by decide +kernel
theorem dX12_position_131 : decode cX12_position 131 = .ok (.iload 5, 2) := by decide +kernel
theorem dX12_position_133 : decode cX12_position 133 = .ok (.iaload, 1) := by decide +kernel
theorem dX12_position_134 : decode cX12_position 134 = .ok (.iadd, 1) := by decide +kernel
theorem dX12_position_135 : decode cX12_position 135 = .ok (.istore_n 3, 1) := by decide +kernel
theorem dX12_position_136 : decode cX12_position 136 = .ok (.iload 4, 2) := by decide +kernel
theorem dX12_position_138 : decode cX12_position 138 = .ok (.aload_n 0, 1) := by decide +kernel
theorem dX12_position_139 : decode cX12_position 139 = .ok (.getfield 63, 3) := by decide +kernel
theorem dX12_position_142 : decode cX12_position 142 = .ok (.bipush 26, 2) := by decide +kernel
theorem dX12_position_144 : decode cX12_position 144 = .ok (.iload 5, 2) := by decide +kernel
theorem dX12_position_146 : decode cX12_position 146 = .ok (.iadd, 1) := by decide +kernel
theorem dX12_position_147 : decode cX12_position 147 = .ok (.iaload, 1) := by decide +kernel
theorem dX12_position_148 : decode cX12_position 148 = .ok (.iadd, 1) := by decide +kernel
theorem dX12_position_149 : decode cX12_position 149 = .ok (.istore 4, 2) := by decide +kernel
theorem dX12_position_151 : decode cX12_position 151 = .ok (.iinc 5 1, 3) := by decide +kernel
theorem dX12_position_154 : decode cX12_position 154 = .ok (.goto (-35), 3) := by decide +kernel
theorem dX12_position_157 : decode cX12_position 157 = .ok (.aload_n 0, 1) := by decide +kernel
theorem dX12_position_158 : decode cX12_position 158 = .ok (.invokevirtual 310, 3) := by decide +kernel
theorem dX12_position_161 : decode cX12_position 161 = .ok (.ifCond .eq 22, 3) := by decide +kernel
theorem dX12_position_164 : decode cX12_position 164 = .ok (.iload_n 3, 1) := by decide +kernel
theorem dX12_position_165 : decode cX12_position 165 = .ok (.ifCond .ne 18, 3) := by decide +kernel
theorem dX12_position_168 : decode cX12_position 168 = .ok (.iload 4, 2) := by decide +kernel
theorem dX12_position_170 : decode cX12_position 170 = .ok (.ifCond .ne 13, 3) := by decide +kernel
theorem dX12_position_173 : decode cX12_position 173 = .ok (.aload_n 0, 1) := by decide +kernel
theorem dX12_position_174 : decode cX12_position 174 = .ok (.bipush 6, 2) := by decide +kernel
theorem dX12_position_176 : decode cX12_position 176 = .ok (.aload_n 0, 1) := by decide +kernel
theorem dX12_position_177 : decode cX12_position 177 = .ok (.getfield 293, 3) := by decide +kernel
theorem dX12_position_180 : decode cX12_position 180 = .ok (.invokevirtual 319, 3) := by decide +kernel
theorem dX12_position_183 : decode cX12_position 183 = .ok (.aload_n 0, 1) := by decide +kernel
theorem dX12_position_184 : decode cX12_position 184 = .ok (.invokevirtual 310, 3) := by decide +kernel
theorem dX12_position_187 : decode cX12_position 187 = .ok (.ifCond .eq 7, 3) := by decide +kernel
theorem dX12_position_190 : decode cX12_position 190 = .ok (.aload_n 0, 1) := by decide +kernel
theorem dX12_position_191 : decode cX12_position 191 = .ok (.invokevirtual 316, 3) := by decide +kernel
theorem dX12_position_194 : decode cX12_position 194 = .ok (.aload_n 0, 1) := by decide +kernel
theorem dX12_position_195 : decode cX12_position 195 = .ok (.invokevirtual 310, 3) := by decide +kernel
theorem dX12_position_198 : decode cX12_position 198 = .ok (.ifCond .eq 19, 3) := by decide +kernel
theorem dX12_position_201 : decode cX12_position 201 = .ok (.aload_n 0, 1) := by decide +kernel
theorem dX12_position_202 : decode cX12_position 202 = .ok (.getfield 302, 3) := by decide +kernel
theorem dX12_position_205 : decode cX12_position 205 = .ok (.ifCond .eq 12, 3) := by decide +kernel
theorem dX12_position_208 : decode cX12_position 208 = .ok (.aload_n 0, 1) := by decide +kernel
theorem dX12_position_209 : decode cX12_position 209 = .ok (.iconst 1, 1) := by decide +kernel
theorem dX12_position_210 : decode cX12_position 210 = .ok (.aload_n 0, 1) := by decide +kernel
theorem dX12_position_211 : decode cX12_position 211 = .ok (.getfield 293, 3) := by decide +kernel
theorem dX12_position_214 : decode cX12_position 214 = .ok (.invokevirtual 319, 3) := by decide +kernel
theorem dX12_position_217 : decode cX12_position 217 = .ok (.aload_n 0, 1) := by decide +kernel
theorem dX12_position_218 : decode cX12_position 218 = .ok (.invokevirtual 310, 3) := by decide +kernel
theorem dX12_position_221 : decode cX12_position 221 = .ok (.ifCond .ne 8, 3) := by decide +kernel
theorem dX12_position_224 : decode cX12_position 224 = .ok (.aload_n 0, 1) := by decide +kernel
theorem dX12_position_225 : decode cX12_position 225 = .ok (.getfield 307, 3) := by decide +kernel
theorem dX12_position_228 : decode cX12_position 228 = .ok (.ireturn, 1) := by decide +kernel
theorem dX12_position_229 : decode cX12_position 229 = .ok (.aload_n 0, 1) := by decide +kernel
theorem dX12_position_230 : decode cX12_position 230 = .ok (.invokevirtual 255, 3) := by decide +kernel
theorem dX12_position_233 : decode cX12_position 233 = .ok (.iconst 0, 1) := by decide +kernel
theorem dX12_position_234 : decode cX12_position 234 = .ok (.istore 5, 2) := by decide +kernel
theorem dX12_position_236 : decode cX12_position 236 = .ok (.iload 5, 2) := by decide +kernel
theorem dX12_position_238 : decode cX12_position 238 = .ok (.bipush 52, 2) := by decide +kernel
theorem dX12_position_240 : decode cX12_position 240 = .ok (.if_icmp .ge 23, 3) := by decide +kernel
theorem dX12_position_243 : decode cX12_position 243 = .ok (.aload_n 0, 1) := by decide +kernel
theorem dX12_position_244 : decode cX12_position 244 = .ok (.getfield 13, 3) := by decide +kernel
theorem dX12_position_247 : decode cX12_position 247 = .ok (.iload 5, 2) := by decide +kernel
theorem dX12_position_249 : decode cX12_position 249 = .ok (.aload_n 0, 1) := by decide +kernel
theorem dX12_position_250 : decode cX12_position 250 = .ok (.getfield 63, 3) := by decide +kernel
theorem dX12_position_253 : decode cX12_position 253 = .ok (.iload 5, 2) := by decide +kernel
theorem dX12_position_255 : decode cX12_position 255 = .ok (.iaload, 1) := by decide +kernel
theorem dX12_position_256 : decode cX12_position 256 = .ok (.iastore, 1) := by decide +kernel
theorem dX12_position_257 : decode cX12_position 257 = .ok (.iinc 5 1, 3) := by decide +kernel
theorem dX12_position_260 : decode cX12_position 260 = .ok (.goto (-24), 3) := by decide +kernel
theorem dX12_position_263 : decode cX12_position 263 = .ok (.aload_n 0, 1) := by decide +kernel
theorem dX12_position_264 : decode cX12_position 264 = .ok (.getfield 13, 3) := by decide +kernel
theorem dX12_position_267 : decode cX12_position 267 = .ok (.iconst 0, 1) := by decide +kernel
theorem dX12_position_268 : decode cX12_position 268 = .ok (.bipush 15, 2) := by decide +kernel
theorem dX12_position_270 : decode cX12_position 270 = .ok (.iload_n 3, 1) := by decide +kernel
theorem dX12_position_271 : decode cX12_position 271 = .ok (.isub, 1) := by decide +kernel
theorem dX12_position_272 : decode cX12_position 272 = .ok (.iastore, 1) := by decide +kernel
theorem dX12_position_273 : decode cX12_position 273 = .ok (.aload_n 0, 1) := by decide +kernel
