theorem dX8_howMany_22 : decode cX8_howMany 22 = .ok (.if_icmp .ne 5, 3) := by decide +kernel
theorem dX8_howMany_25 : decode cX8_howMany 25 = .ok (.iconst 1, 1) := by decide +kernel
theorem dX8_howMany_26 : decode cX8_howMany 26 = .ok (.ireturn, 1) := by decide +kernel
theorem dX8_howMany_27 : decode cX8_howMany 27 = .ok (.iconst 0, 1) := by decide +kernel
theorem dX8_howMany_28 : decode cX8_howMany 28 = .ok (.istore_n 3, 1) := by decide +kernel
theorem dX8_howMany_29 : decode cX8_howMany 29 = .ok (.iconst 0, 1) := by decide +kernel
theorem dX8_howMany_30 : decode cX8_howMany 30 = .ok (.istore 4, 2) := by decide +kernel
theorem dX8_howMany_32 : decode cX8_howMany 32 = .ok (.iload 4, 2) := by decide +kernel
theorem dX8_howMany_34 : decode cX8_howMany 34 = .ok (.iload_n 1, 1) := by decide +kernel
theorem dX8_howMany_35 : decode cX8_howMany 35 = .ok (.if_icmp .gt 36, 3) := by decide +kernel
theorem dX8_howMany_38 : decode cX8_howMany 38 = .ok (.iload 4, 2) := by decide +kernel
theorem dX8_howMany_40 : decode cX8_howMany 40 = .ok (.iload_n 0, 1) := by decide +kernel
theorem dX8_howMany_41 : decode cX8_howMany 41 = .ok (.imul, 1) := by decide +kernel
theorem dX8_howMany_42 : decode cX8_howMany 42 = .ok (.iload_n 2, 1) := by decide +kernel
theorem dX8_howMany_43 : decode cX8_howMany 43 = .ok (.if_icmp .gt 28, 3) := by decide +kernel
theorem dX8_howMany_46 : decode cX8_howMany 46 = .ok (.iload_n 3, 1) := by decide +kernel
theorem dX8_howMany_47 : decode cX8_howMany 47 = .ok (.iload_n 0, 1) := by decide +kernel
theorem dX8_howMany_48 : decode cX8_howMany 48 = .ok (.iconst 1, 1) := by decide +kernel
theorem dX8_howMany_49 : decode cX8_howMany 49 = .ok (.isub, 1) := by decide +kernel
theorem dX8_howMany_50 : decode cX8_howMany 50 = .ok (.iload_n 1, 1) := by decide +kernel
theorem dX8_howMany_51 : decode cX8_howMany 51 = .ok (.iload 4, 2) := by decide +kernel
theorem dX8_howMany_53 : decode cX8_howMany 53 = .ok (.isub, 1) := by decide +kernel
theorem dX8_howMany_54 : decode cX8_howMany 54 = .ok (.iload_n 2, 1) := by decide +kernel
theorem dX8_howMany_55 : decode cX8_howMany 55 = .ok (.iload 4, 2) := by decide +kernel
theorem dX8_howMany_57 : decode cX8_howMany 57 = .ok (.iload_n 0, 1) := by decide +kernel
theorem dX8_howMany_58 : decode cX8_howMany 58 = .ok (.imul, 1) := by decide +kernel
theorem dX8_howMany_59 : decode cX8_howMany 59 = .ok (.isub, 1) := by decide +kernel
theorem dX8_howMany_60 : decode cX8_howMany 60 = .ok (.invokestatic 55, 3) := by decide +kernel
theorem dX8_howMany_63 : decode cX8_howMany 63 = .ok (.iadd, 1) := by decide +kernel
theorem dX8_howMany_64 : decode cX8_howMany 64 = .ok (.istore_n 3, 1) := by decide +kernel
theorem dX8_howMany_65 : decode cX8_howMany 65 = .ok (.iinc 4 1, 3) := by decide +kernel
theorem dX8_howMany_68 : decode cX8_howMany 68 = .ok (.goto (-36), 3) := by decide +kernel
theorem dX8_howMany_71 : decode cX8_howMany 71 = .ok (.iload_n 3, 1) := by decide +kernel
theorem dX8_howMany_72 : decode cX8_howMany 72 = .ok (.ireturn, 1) := by decide +kernel
theorem dX8_workOut_0 : decode cX8_workOut 0 = .ok (.aload_n 0, 1) := by decide +kernel
theorem dX8_workOut_1 : decode cX8_workOut 1 = .ok (.iload_n 1, 1) := by decide +kernel
theorem dX8_workOut_2 : decode cX8_workOut 2 = .ok (.invokevirtual 59, 3) := by decide +kernel
theorem dX8_workOut_5 : decode cX8_workOut 5 = .ok (.ifCond .eq 4, 3) := by decide +kernel
theorem dX8_workOut_8 : decode cX8_workOut 8 = .ok (.return_, 1) := by decide +kernel
theorem dX8_workOut_9 : decode cX8_workOut 9 = .ok (.iconst 0, 1) := by decide +kernel
theorem dX8_workOut_10 : decode cX8_workOut 10 = .ok (.istore_n 2, 1) := by decide +kernel
theorem dX8_workOut_11 : decode cX8_workOut 11 = .ok (.iconst 0, 1) := by decide +kernel
theorem dX8_workOut_12 : decode cX8_workOut 12 = .ok (.istore_n 3, 1) := by decide +kernel
theorem dX8_workOut_13 : decode cX8_workOut 13 = .ok (.iload_n 3, 1) := by decide +kernel
theorem dX8_workOut_14 : decode cX8_workOut 14 = .ok (.ldc 63, 2) := by decide +kernel
theorem dX8_workOut_16 : decode cX8_workOut 16 = .ok (.if_icmp .ge 33, 3) := by decide +kernel
theorem dX8_workOut_19 : decode cX8_workOut 19 = .ok (.iload_n 2, 1) := by decide +kernel
theorem dX8_workOut_20 : decode cX8_workOut 20 = .ok (.iconst (-1), 1) := by decide +kernel
theorem dX8_workOut_21 : decode cX8_workOut 21 = .ok (.if_icmp .eq 28, 3) := by decide +kernel
theorem dX8_workOut_24 : decode cX8_workOut 24 = .ok (.aload_n 0, 1) := by decide +kernel
theorem dX8_workOut_25 : decode cX8_workOut 25 = .ok (.iload_n 2, 1) := by decide +kernel
theorem dX8_workOut_26 : decode cX8_workOut 26 = .ok (.invokevirtual 59, 3) := by decide +kernel
theorem dX8_workOut_29 : decode cX8_workOut 29 = .ok (.ifCond .ne 8, 3) := by decide +kernel
theorem dX8_workOut_32 : decode cX8_workOut 32 = .ok (.aload_n 0, 1) := by decide +kernel
theorem dX8_workOut_33 : decode cX8_workOut 33 = .ok (.iload_n 2, 1) := by decide +kernel
theorem dX8_workOut_34 : decode cX8_workOut 34 = .ok (.invokevirtual 64, 3) := by decide +kernel
theorem dX8_workOut_37 : decode cX8_workOut 37 = .ok (.iload_n 2, 1) := by decide +kernel
theorem dX8_workOut_38 : decode cX8_workOut 38 = .ok (.iload_n 1, 1) := by decide +kernel
theorem dX8_workOut_39 : decode cX8_workOut 39 = .ok (.invokestatic 67, 3) := by decide +kernel
theorem dX8_workOut_42 : decode cX8_workOut 42 = .ok (.istore_n 2, 1) := by decide +kernel
theorem dX8_workOut_43 : decode cX8_workOut 43 = .ok (.iinc 3 1, 3) := by decide +kernel
theorem dX8_workOut_46 : decode cX8_workOut 46 = .ok (.goto (-33), 3) := by decide +kernel
theorem dX8_workOut_49 : decode cX8_workOut 49 = .ok (.return_, 1) := by decide +kernel
theorem dX8_following_0 : decode cX8_following 0 = .ok (.iconst 1, 1) := by decide +kernel
theorem dX8_following_1 : decode cX8_following 1 = .ok (.istore_n 2, 1) := by decide +kernel
theorem dX8_following_2 : decode cX8_following 2 = .ok (.iload_n 2, 1) := by decide +kernel
theorem dX8_following_3 : decode cX8_following 3 = .ok (.bipush 6, 2) := by decide +kernel
theorem dX8_following_5 : decode cX8_following 5 = .ok (.if_icmp .gt 36, 3) := by decide +kernel
theorem dX8_following_8 : decode cX8_following 8 = .ok (.iload_n 0, 1) := by decide +kernel
theorem dX8_following_9 : decode cX8_following 9 = .ok (.iload_n 2, 1) := by decide +kernel
theorem dX8_following_10 : decode cX8_following 10 = .ok (.invokestatic 51, 3) := by decide +kernel
theorem dX8_following_13 : decode cX8_following 13 = .ok (.iload_n 1, 1) := by decide +kernel
theorem dX8_following_14 : decode cX8_following 14 = .ok (.iload_n 2, 1) := by decide +kernel
theorem dX8_following_15 : decode cX8_following 15 = .ok (.invokestatic 51, 3) := by decide +kernel
theorem dX8_following_18 : decode cX8_following 18 = .ok (.if_icmp .ge 17, 3) := by decide +kernel
theorem dX8_following_21 : decode cX8_following 21 = .ok (.iconst 4, 1) := by decide +kernel
theorem dX8_following_22 : decode cX8_following 22 = .ok (.iload_n 2, 1) := by decide +kernel
theorem dX8_following_23 : decode cX8_following 23 = .ok (.iconst 1, 1) := by decide +kernel
theorem dX8_following_24 : decode cX8_following 24 = .ok (.isub, 1) := by decide +kernel
theorem dX8_following_25 : decode cX8_following 25 = .ok (.imul, 1) := by decide +kernel
theorem dX8_following_26 : decode cX8_following 26 = .ok (.istore_n 3, 1) := by decide +kernel
theorem dX8_following_27 : decode cX8_following 27 = .ok (.iload_n 0, 1) := by decide +kernel
theorem dX8_following_28 : decode cX8_following 28 = .ok (.iload_n 3, 1) := by decide +kernel
theorem dX8_following_29 : decode cX8_following 29 = .ok (.ishr, 1) := by decide +kernel
theorem dX8_following_30 : decode cX8_following 30 = .ok (.iconst 1, 1) := by decide +kernel
theorem dX8_following_31 : decode cX8_following 31 = .ok (.iadd, 1) := by decide +kernel
theorem dX8_following_32 : decode cX8_following 32 = .ok (.iload_n 3, 1) := by decide +kernel
theorem dX8_following_33 : decode cX8_following 33 = .ok (.ishl, 1) := by decide +kernel
theorem dX8_following_34 : decode cX8_following 34 = .ok (.ireturn, 1) := by decide +kernel
theorem dX8_following_35 : decode cX8_following 35 = .ok (.iinc 2 1, 3) := by decide +kernel
theorem dX8_following_38 : decode cX8_following 38 = .ok (.goto (-36), 3) := by decide +kernel
theorem dX8_following_41 : decode cX8_following 41 = .ok (.iconst (-1), 1) := by decide +kernel
theorem dX8_following_42 : decode cX8_following 42 = .ok (.ireturn, 1) := by decide +kernel
theorem dX8_rankOf_0 : decode cX8_rankOf 0 = .ok (.iconst 0, 1) := by decide +kernel
theorem dX8_rankOf_1 : decode cX8_rankOf 1 = .ok (.istore_n 2, 1) := by decide +kernel
theorem dX8_rankOf_2 : decode cX8_rankOf 2 = .ok (.iconst 0, 1) := by decide +kernel
theorem dX8_rankOf_3 : decode cX8_rankOf 3 = .ok (.istore_n 3, 1) := by decide +kernel
theorem dX8_rankOf_4 : decode cX8_rankOf 4 = .ok (.iconst 1, 1) := by decide +kernel
theorem dX8_rankOf_5 : decode cX8_rankOf 5 = .ok (.istore 4, 2) := by decide +kernel
theorem dX8_rankOf_7 : decode cX8_rankOf 7 = .ok (.iload 4, 2) := by decide +kernel
theorem dX8_rankOf_9 : decode cX8_rankOf 9 = .ok (.bipush 6, 2) := by decide +kernel
theorem dX8_rankOf_11 : decode cX8_rankOf 11 = .ok (.if_icmp .gt 42, 3) := by decide +kernel
theorem dX8_rankOf_14 : decode cX8_rankOf 14 = .ok (.iload_n 2, 1) := by decide +kernel
theorem dX8_rankOf_15 : decode cX8_rankOf 15 = .ok (.iload_n 1, 1) := by decide +kernel
theorem dX8_rankOf_16 : decode cX8_rankOf 16 = .ok (.iconst 4, 1) := by decide +kernel
theorem dX8_rankOf_17 : decode cX8_rankOf 17 = .ok (.bipush 6, 2) := by decide +kernel
theorem dX8_rankOf_19 : decode cX8_rankOf 19 = .ok (.iload 4, 2) := by decide +kernel
theorem dX8_rankOf_21 : decode cX8_rankOf 21 = .ok (.isub, 1) := by decide +kernel
theorem dX8_rankOf_22 : decode cX8_rankOf 22 = .ok (.imul, 1) := by decide +kernel
theorem dX8_rankOf_23 : decode cX8_rankOf 23 = .ok (.ishr, 1) := by decide +kernel
theorem dX8_rankOf_24 : decode cX8_rankOf 24 = .ok (.bipush 15, 2) := by decide +kernel
theorem dX8_rankOf_26 : decode cX8_rankOf 26 = .ok (.iand, 1) := by decide +kernel
theorem dX8_rankOf_27 : decode cX8_rankOf 27 = .ok (.iadd, 1) := by decide +kernel
theorem dX8_rankOf_28 : decode cX8_rankOf 28 = .ok (.istore_n 2, 1) := by decide +kernel
theorem dX8_rankOf_29 : decode cX8_rankOf 29 = .ok (.iload_n 3, 1) := by decide +kernel
theorem dX8_rankOf_30 : decode cX8_rankOf 30 = .ok (.aload_n 0, 1) := by decide +kernel
theorem dX8_rankOf_31 : decode cX8_rankOf 31 = .ok (.getfield 17, 3) := by decide +kernel
theorem dX8_rankOf_34 : decode cX8_rankOf 34 = .ok (.bipush 16, 2) := by decide +kernel
theorem dX8_rankOf_36 : decode cX8_rankOf 36 = .ok (.iload 4, 2) := by decide +kernel
theorem dX8_rankOf_38 : decode cX8_rankOf 38 = .ok (.imul, 1) := by decide +kernel
theorem dX8_rankOf_39 : decode cX8_rankOf 39 = .ok (.iload_n 2, 1) := by decide +kernel
theorem dX8_rankOf_40 : decode cX8_rankOf 40 = .ok (.bipush 15, 2) := by decide +kernel
theorem dX8_rankOf_42 : decode cX8_rankOf 42 = .ok (.iand, 1) := by decide +kernel
theorem dX8_rankOf_43 : decode cX8_rankOf 43 = .ok (.iadd, 1) := by decide +kernel
theorem dX8_rankOf_44 : decode cX8_rankOf 44 = .ok (.iaload, 1) := by decide +kernel
theorem dX8_rankOf_45 : decode cX8_rankOf 45 = .ok (.iadd, 1) := by decide +kernel
theorem dX8_rankOf_46 : decode cX8_rankOf 46 = .ok (.istore_n 3, 1) := by decide +kernel
theorem dX8_rankOf_47 : decode cX8_rankOf 47 = .ok (.iinc 4 1, 3) := by decide +kernel
theorem dX8_rankOf_50 : decode cX8_rankOf 50 = .ok (.goto (-43), 3) := by decide +kernel
theorem dX8_rankOf_53 : decode cX8_rankOf 53 = .ok (.iload_n 3, 1) := by decide +kernel
theorem dX8_rankOf_54 : decode cX8_rankOf 54 = .ok (.ireturn, 1) := by decide +kernel
theorem dX8_cellOf_0 : decode cX8_cellOf 0 = .ok (.iload_n 0, 1) := by decide +kernel
theorem dX8_cellOf_1 : decode cX8_cellOf 1 = .ok (.bipush 64, 2) := by decide +kernel
theorem dX8_cellOf_3 : decode cX8_cellOf 3 = .ok (.irem, 1) := by decide +kernel
theorem dX8_cellOf_4 : decode cX8_cellOf 4 = .ok (.bipush 18, 2) := by decide +kernel
theorem dX8_cellOf_6 : decode cX8_cellOf 6 = .ok (.imul, 1) := by decide +kernel
theorem dX8_cellOf_7 : decode cX8_cellOf 7 = .ok (.ireturn, 1) := by decide +kernel
theorem dX8_shelfOf_0 : decode cX8_shelfOf 0 = .ok (.iload_n 1, 1) := by decide +kernel
theorem dX8_shelfOf_1 : decode cX8_shelfOf 1 = .ok (.bipush 64, 2) := by decide +kernel
theorem dX8_shelfOf_3 : decode cX8_shelfOf 3 = .ok (.idiv, 1) := by decide +kernel
theorem dX8_shelfOf_4 : decode cX8_shelfOf 4 = .ok (.istore_n 2, 1) := by decide +kernel
theorem dX8_shelfOf_5 : decode cX8_shelfOf 5 = .ok (.iload_n 2, 1) := by decide +kernel
theorem dX8_shelfOf_6 : decode cX8_shelfOf 6 = .ok (.sipush 848, 3) := by decide +kernel
theorem dX8_shelfOf_9 : decode cX8_shelfOf 9 = .ok (.if_icmp .ge 12, 3) := by decide +kernel
theorem dX8_shelfOf_12 : decode cX8_shelfOf 12 = .ok (.aload_n 0, 1) := by decide +kernel
theorem dX8_shelfOf_13 : decode cX8_shelfOf 13 = .ok (.getfield 13, 3) := by decide +kernel
theorem dX8_shelfOf_16 : decode cX8_shelfOf 16 = .ok (.iload_n 2, 1) := by decide +kernel
theorem dX8_shelfOf_17 : decode cX8_shelfOf 17 = .ok (.aaload, 1) := by decide +kernel
theorem dX8_shelfOf_18 : decode cX8_shelfOf 18 = .ok (.goto 4, 3) := by decide +kernel
theorem dX8_shelfOf_21 : decode cX8_shelfOf 21 = .ok (.aconst_null, 1) := by decide +kernel
theorem dX8_shelfOf_22 : decode cX8_shelfOf 22 = .ok (.areturn, 1) := by decide +kernel
theorem dX8_isWorkedOut_0 : decode cX8_isWorkedOut 0 = .ok (.aload_n 0, 1) := by decide +kernel
theorem dX8_isWorkedOut_1 : decode cX8_isWorkedOut 1 = .ok (.iload_n 1, 1) := by decide +kernel
theorem dX8_isWorkedOut_2 : decode cX8_isWorkedOut 2 = .ok (.bipush 12, 2) := by decide +kernel
theorem dX8_isWorkedOut_4 : decode cX8_isWorkedOut 4 = .ok (.invokevirtual 70, 3) := by decide +kernel
theorem dX8_isWorkedOut_7 : decode cX8_isWorkedOut 7 = .ok (.lconst 0, 1) := by decide +kernel
theorem dX8_isWorkedOut_8 : decode cX8_isWorkedOut 8 = .ok (.lcmp, 1) := by decide +kernel
theorem dX8_isWorkedOut_9 : decode cX8_isWorkedOut 9 = .ok (.ifCond .le 7, 3) := by decide +kernel
theorem dX8_isWorkedOut_12 : decode cX8_isWorkedOut 12 = .ok (.iconst 1, 1) := by decide +kernel
theorem dX8_isWorkedOut_13 : decode cX8_isWorkedOut 13 = .ok (.goto 4, 3) := by decide +kernel
theorem dX8_isWorkedOut_16 : decode cX8_isWorkedOut 16 = .ok (.iconst 0, 1) := by decide +kernel
theorem dX8_isWorkedOut_17 : decode cX8_isWorkedOut 17 = .ok (.ireturn, 1) := by decide +kernel
theorem dX8_chances_0 : decode cX8_chances 0 = .ok (.iload_n 2, 1) := by decide +kernel
theorem dX8_chances_1 : decode cX8_chances 1 = .ok (.iconst 1, 1) := by decide +kernel
theorem dX8_chances_2 : decode cX8_chances 2 = .ok (.if_icmp .lt 9, 3) := by decide +kernel
theorem dX8_chances_5 : decode cX8_chances 5 = .ok (.iload_n 2, 1) := by decide +kernel
theorem dX8_chances_6 : decode cX8_chances 6 = .ok (.bipush 12, 2) := by decide +kernel
theorem dX8_chances_8 : decode cX8_chances 8 = .ok (.if_icmp .le 13, 3) := by decide +kernel
theorem dX8_chances_11 : decode cX8_chances 11 = .ok (.iload_n 1, 1) := by decide +kernel
theorem dX8_chances_12 : decode cX8_chances 12 = .ok (.ifCond .ne 7, 3) := by decide +kernel
theorem dX8_chances_15 : decode cX8_chances 15 = .ok (.lconst 1, 1) := by decide +kernel
theorem dX8_chances_16 : decode cX8_chances 16 = .ok (.goto 4, 3) := by decide +kernel
theorem dX8_chances_19 : decode cX8_chances 19 = .ok (.lconst 0, 1) := by decide +kernel
theorem dX8_chances_20 : decode cX8_chances 20 = .ok (.lreturn, 1) := by decide +kernel
theorem dX8_chances_21 : decode cX8_chances 21 = .ok (.aload_n 0, 1) := by decide +kernel
theorem dX8_chances_22 : decode cX8_chances 22 = .ok (.iload_n 1, 1) := by decide +kernel
theorem dX8_chances_23 : decode cX8_chances 23 = .ok (.invokevirtual 74, 3) := by decide +kernel
theorem dX8_chances_26 : decode cX8_chances 26 = .ok (.istore_n 3, 1) := by decide +kernel
theorem dX8_chances_27 : decode cX8_chances 27 = .ok (.aload_n 0, 1) := by decide +kernel
theorem dX8_chances_28 : decode cX8_chances 28 = .ok (.iload_n 3, 1) := by decide +kernel
theorem dX8_chances_29 : decode cX8_chances 29 = .ok (.invokevirtual 78, 3) := by decide +kernel
theorem dX8_chances_32 : decode cX8_chances 32 = .ok (.astore 4, 2) := by decide +kernel
theorem dX8_chances_34 : decode cX8_chances 34 = .ok (.aload 4, 2) := by decide +kernel
theorem dX8_chances_36 : decode cX8_chances 36 = .ok (.ifnonnull 7, 3) := by decide +kernel
theorem dX8_chances_39 : decode cX8_chances 39 = .ok (.lconst 0, 1) := by decide +kernel
theorem dX8_chances_40 : decode cX8_chances 40 = .ok (.goto 20, 3) := by decide +kernel
theorem dX8_chances_43 : decode cX8_chances 43 = .ok (.aload 4, 2) := by decide +kernel
theorem dX8_chances_45 : decode cX8_chances 45 = .ok (.getfield 82, 3) := by decide +kernel
theorem dX8_chances_48 : decode cX8_chances 48 = .ok (.iload_n 3, 1) := by decide +kernel
theorem dX8_chances_49 : decode cX8_chances 49 = .ok (.invokestatic 85, 3) := by decide +kernel
theorem dX8_chances_52 : decode cX8_chances 52 = .ok (.bipush 6, 2) := by decide +kernel
theorem dX8_chances_54 : decode cX8_chances 54 = .ok (.iadd, 1) := by decide +kernel
theorem dX8_chances_55 : decode cX8_chances 55 = .ok (.iload_n 2, 1) := by decide +kernel
theorem dX8_chances_56 : decode cX8_chances 56 = .ok (.iadd, 1) := by decide +kernel
theorem dX8_chances_57 : decode cX8_chances 57 = .ok (.iconst 1, 1) := by decide +kernel
theorem dX8_chances_58 : decode cX8_chances 58 = .ok (.isub, 1) := by decide +kernel
theorem dX8_chances_59 : decode cX8_chances 59 = .ok (.laload, 1) := by decide +kernel
theorem dX8_chances_60 : decode cX8_chances 60 = .ok (.lreturn, 1) := by decide +kernel
theorem dX8_isSure_0 : decode cX8_isSure 0 = .ok (.aload_n 0, 1) := by decide +kernel
theorem dX8_isSure_1 : decode cX8_isSure 1 = .ok (.iload_n 1, 1) := by decide +kernel
theorem dX8_isSure_2 : decode cX8_isSure 2 = .ok (.bipush 12, 2) := by decide +kernel
theorem dX8_isSure_4 : decode cX8_isSure 4 = .ok (.invokevirtual 70, 3) := by decide +kernel
theorem dX8_isSure_7 : decode cX8_isSure 7 = .ok (.aload_n 0, 1) := by decide +kernel
theorem dX8_isSure_8 : decode cX8_isSure 8 = .ok (.getfield 21, 3) := by decide +kernel
theorem dX8_isSure_11 : decode cX8_isSure 11 = .ok (.bipush 12, 2) := by decide +kernel
theorem dX8_isSure_13 : decode cX8_isSure 13 = .ok (.laload, 1) := by decide +kernel
theorem dX8_isSure_14 : decode cX8_isSure 14 = .ok (.lcmp, 1) := by decide +kernel
theorem dX8_isSure_15 : decode cX8_isSure 15 = .ok (.ifCond .ne 7, 3) := by decide +kernel
theorem dX8_isSure_18 : decode cX8_isSure 18 = .ok (.iconst 1, 1) := by decide +kernel
theorem dX8_isSure_19 : decode cX8_isSure 19 = .ok (.goto 4, 3) := by decide +kernel
theorem dX8_isSure_22 : decode cX8_isSure 22 = .ok (.iconst 0, 1) := by decide +kernel
theorem dX8_isSure_23 : decode cX8_isSure 23 = .ok (.ireturn, 1) := by decide +kernel
theorem dX8_putRolls_0 : decode cX8_putRolls 0 = .ok (.aload_n 0, 1) := by decide +kernel
theorem dX8_putRolls_1 : decode cX8_putRolls 1 = .ok (.iload_n 1, 1) := by decide +kernel
theorem dX8_putRolls_2 : decode cX8_putRolls 2 = .ok (.invokevirtual 74, 3) := by decide +kernel
theorem dX8_putRolls_5 : decode cX8_putRolls 5 = .ok (.istore_n 3, 1) := by decide +kernel
theorem dX8_putRolls_6 : decode cX8_putRolls 6 = .ok (.aload_n 0, 1) := by decide +kernel
theorem dX8_putRolls_7 : decode cX8_putRolls 7 = .ok (.iload_n 3, 1) := by decide +kernel
theorem dX8_putRolls_8 : decode cX8_putRolls 8 = .ok (.invokevirtual 78, 3) := by decide +kernel
theorem dX8_putRolls_11 : decode cX8_putRolls 11 = .ok (.astore 4, 2) := by decide +kernel
theorem dX8_putRolls_13 : decode cX8_putRolls 13 = .ok (.aload_n 2, 1) := by decide +kernel
theorem dX8_putRolls_14 : decode cX8_putRolls 14 = .ok (.lconst 0, 1) := by decide +kernel
theorem dX8_putRolls_15 : decode cX8_putRolls 15 = .ok (.invokevirtual 43, 3) := by decide +kernel
theorem dX8_putRolls_18 : decode cX8_putRolls 18 = .ok (.aload 4, 2) := by decide +kernel
theorem dX8_putRolls_20 : decode cX8_putRolls 20 = .ok (.ifnull 17, 3) := by decide +kernel
theorem dX8_putRolls_23 : decode cX8_putRolls 23 = .ok (.aload_n 2, 1) := by decide +kernel
theorem dX8_putRolls_24 : decode cX8_putRolls 24 = .ok (.aload 4, 2) := by decide +kernel
theorem dX8_putRolls_26 : decode cX8_putRolls 26 = .ok (.getfield 82, 3) := by decide +kernel
theorem dX8_putRolls_29 : decode cX8_putRolls 29 = .ok (.iload_n 3, 1) := by decide +kernel
theorem dX8_putRolls_30 : decode cX8_putRolls 30 = .ok (.invokestatic 85, 3) := by decide +kernel
theorem dX8_putRolls_33 : decode cX8_putRolls 33 = .ok (.iconst 1, 1) := by decide +kernel
theorem dX8_putRolls_34 : decode cX8_putRolls 34 = .ok (.invokevirtual 88, 3) := by decide +kernel
theorem dX8_putRolls_37 : decode cX8_putRolls 37 = .ok (.return_, 1) := by decide +kernel
theorem dX8_settle_0 : decode cX8_settle 0 = .ok (.aload_n 0, 1) := by decide +kernel
theorem dX8_settle_1 : decode cX8_settle 1 = .ok (.getfield 35, 3) := by decide +kernel
theorem dX8_settle_4 : decode cX8_settle 4 = .ok (.lconst 0, 1) := by decide +kernel
theorem dX8_settle_5 : decode cX8_settle 5 = .ok (.invokevirtual 43, 3) := by decide +kernel
theorem dX8_settle_8 : decode cX8_settle 8 = .ok (.iload_n 1, 1) := by decide +kernel
theorem dX8_settle_9 : decode cX8_settle 9 = .ok (.ifCond .ne 21, 3) := by decide +kernel
theorem dX8_settle_12 : decode cX8_settle 12 = .ok (.aload_n 0, 1) := by decide +kernel
theorem dX8_settle_13 : decode cX8_settle 13 = .ok (.getfield 21, 3) := by decide +kernel
theorem dX8_settle_16 : decode cX8_settle 16 = .ok (.iconst 1, 1) := by decide +kernel
theorem dX8_settle_17 : decode cX8_settle 17 = .ok (.aload_n 0, 1) := by decide +kernel
theorem dX8_settle_18 : decode cX8_settle 18 = .ok (.getfield 25, 3) := by decide +kernel
theorem dX8_settle_21 : decode cX8_settle 21 = .ok (.iconst 0, 1) := by decide +kernel
theorem dX8_settle_22 : decode cX8_settle 22 = .ok (.bipush 12, 2) := by decide +kernel
theorem dX8_settle_24 : decode cX8_settle 24 = .ok (.invokestatic 92, 3) := by decide +kernel
theorem dX8_settle_27 : decode cX8_settle 27 = .ok (.goto 85, 3) := by decide +kernel
theorem dX8_settle_30 : decode cX8_settle 30 = .ok (.aload_n 0, 1) := by decide +kernel
theorem dX8_settle_31 : decode cX8_settle 31 = .ok (.getfield 25, 3) := by decide +kernel
theorem dX8_settle_34 : decode cX8_settle 34 = .ok (.lconst 0, 1) := by decide +kernel
theorem dX8_settle_35 : decode cX8_settle 35 = .ok (.invokestatic 98, 3) := by decide +kernel
theorem dX8_settle_38 : decode cX8_settle 38 = .ok (.iconst 1, 1) := by decide +kernel
theorem dX8_settle_39 : decode cX8_settle 39 = .ok (.istore_n 2, 1) := by decide +kernel
theorem dX8_settle_40 : decode cX8_settle 40 = .ok (.iload_n 2, 1) := by decide +kernel
theorem dX8_settle_41 : decode cX8_settle 41 = .ok (.bipush 6, 2) := by decide +kernel
theorem dX8_settle_43 : decode cX8_settle 43 = .ok (.if_icmp .gt 44, 3) := by decide +kernel
theorem dX8_settle_46 : decode cX8_settle 46 = .ok (.iload_n 2, 1) := by decide +kernel
theorem dX8_settle_47 : decode cX8_settle 47 = .ok (.istore_n 3, 1) := by decide +kernel
theorem dX8_settle_48 : decode cX8_settle 48 = .ok (.iload_n 3, 1) := by decide +kernel
theorem dX8_settle_49 : decode cX8_settle 49 = .ok (.bipush 6, 2) := by decide +kernel
theorem dX8_settle_51 : decode cX8_settle 51 = .ok (.if_icmp .gt 30, 3) := by decide +kernel
theorem dX8_settle_54 : decode cX8_settle 54 = .ok (.aload_n 0, 1) := by decide +kernel
theorem dX8_settle_55 : decode cX8_settle 55 = .ok (.aload_n 0, 1) := by decide +kernel
theorem dX8_settle_56 : decode cX8_settle 56 = .ok (.iload_n 1, 1) := by decide +kernel
theorem dX8_settle_57 : decode cX8_settle 57 = .ok (.iload_n 2, 1) := by decide +kernel
theorem dX8_settle_58 : decode cX8_settle 58 = .ok (.iload_n 3, 1) := by decide +kernel
theorem dX8_settle_59 : decode cX8_settle 59 = .ok (.invokevirtual 104, 3) := by decide +kernel
theorem dX8_settle_62 : decode cX8_settle 62 = .ok (.iload_n 2, 1) := by decide +kernel
theorem dX8_settle_63 : decode cX8_settle 63 = .ok (.iload_n 3, 1) := by decide +kernel
theorem dX8_settle_64 : decode cX8_settle 64 = .ok (.if_icmp .ne 7, 3) := by decide +kernel
theorem dX8_settle_67 : decode cX8_settle 67 = .ok (.iconst 1, 1) := by decide +kernel
theorem dX8_settle_68 : decode cX8_settle 68 = .ok (.goto 4, 3) := by decide +kernel
theorem dX8_settle_71 : decode cX8_settle 71 = .ok (.iconst 2, 1) := by decide +kernel
theorem dX8_settle_72 : decode cX8_settle 72 = .ok (.invokevirtual 107, 3) := by decide +kernel
theorem dX8_settle_75 : decode cX8_settle 75 = .ok (.iinc 3 1, 3) := by decide +kernel
theorem dX8_settle_78 : decode cX8_settle 78 = .ok (.goto (-30), 3) := by decide +kernel
theorem dX8_settle_81 : decode cX8_settle 81 = .ok (.iinc 2 1, 3) := by decide +kernel
theorem dX8_settle_84 : decode cX8_settle 84 = .ok (.goto (-44), 3) := by decide +kernel
theorem dX8_settle_87 : decode cX8_settle 87 = .ok (.aload_n 0, 1) := by decide +kernel
theorem dX8_settle_88 : decode cX8_settle 88 = .ok (.getfield 35, 3) := by decide +kernel
theorem dX8_settle_91 : decode cX8_settle 91 = .ok (.bipush 36, 2) := by decide +kernel
theorem dX8_settle_93 : decode cX8_settle 93 = .ok (.invokevirtual 111, 3) := by decide +kernel
theorem dX8_settle_96 : decode cX8_settle 96 = .ok (.aload_n 0, 1) := by decide +kernel
theorem dX8_settle_97 : decode cX8_settle 97 = .ok (.getfield 35, 3) := by decide +kernel
theorem dX8_settle_100 : decode cX8_settle 100 = .ok (.aload_n 0, 1) := by decide +kernel
theorem dX8_settle_101 : decode cX8_settle 101 = .ok (.getfield 31, 3) := by decide +kernel
theorem dX8_settle_104 : decode cX8_settle 104 = .ok (.getfield 114, 3) := by decide +kernel
theorem dX8_settle_107 : decode cX8_settle 107 = .ok (.iconst 0, 1) := by decide +kernel
theorem dX8_settle_108 : decode cX8_settle 108 = .ok (.iconst 1, 1) := by decide +kernel
theorem dX8_settle_109 : decode cX8_settle 109 = .ok (.invokevirtual 88, 3) := by decide +kernel
theorem dX8_settle_112 : decode cX8_settle 112 = .ok (.aload_n 0, 1) := by decide +kernel
theorem dX8_settle_113 : decode cX8_settle 113 = .ok (.iload_n 1, 1) := by decide +kernel
theorem dX8_settle_114 : decode cX8_settle 114 = .ok (.invokevirtual 117, 3) := by decide +kernel
theorem dX8_settle_117 : decode cX8_settle 117 = .ok (.return_, 1) := by decide +kernel
theorem dX8_count_0 : decode cX8_count 0 = .ok (.aload_n 0, 1) := by decide +kernel
theorem dX8_count_1 : decode cX8_count 1 = .ok (.iload_n 1, 1) := by decide +kernel
theorem dX8_count_2 : decode cX8_count 2 = .ok (.invokevirtual 74, 3) := by decide +kernel
theorem dX8_count_5 : decode cX8_count 5 = .ok (.istore_n 3, 1) := by decide +kernel
theorem dX8_count_6 : decode cX8_count 6 = .ok (.aload_n 0, 1) := by decide +kernel
theorem dX8_count_7 : decode cX8_count 7 = .ok (.iload_n 3, 1) := by decide +kernel
theorem dX8_count_8 : decode cX8_count 8 = .ok (.invokevirtual 78, 3) := by decide +kernel
theorem dX8_count_11 : decode cX8_count 11 = .ok (.astore 4, 2) := by decide +kernel
theorem dX8_count_13 : decode cX8_count 13 = .ok (.aload 4, 2) := by decide +kernel
theorem dX8_count_15 : decode cX8_count 15 = .ok (.ifnonnull 4, 3) := by decide +kernel
theorem dX8_count_18 : decode cX8_count 18 = .ok (.return_, 1) := by decide +kernel
theorem dX8_count_19 : decode cX8_count 19 = .ok (.iload_n 3, 1) := by decide +kernel
theorem dX8_count_20 : decode cX8_count 20 = .ok (.invokestatic 85, 3) := by decide +kernel
theorem dX8_count_23 : decode cX8_count 23 = .ok (.istore 5, 2) := by decide +kernel
theorem dX8_count_25 : decode cX8_count 25 = .ok (.aload_n 0, 1) := by decide +kernel
theorem dX8_count_26 : decode cX8_count 26 = .ok (.getfield 35, 3) := by decide +kernel
theorem dX8_count_29 : decode cX8_count 29 = .ok (.aload 4, 2) := by decide +kernel
theorem dX8_count_31 : decode cX8_count 31 = .ok (.getfield 82, 3) := by decide +kernel
theorem dX8_count_34 : decode cX8_count 34 = .ok (.iload 5, 2) := by decide +kernel
theorem dX8_count_36 : decode cX8_count 36 = .ok (.iload_n 2, 1) := by decide +kernel
theorem dX8_count_37 : decode cX8_count 37 = .ok (.invokevirtual 88, 3) := by decide +kernel
theorem dX8_count_40 : decode cX8_count 40 = .ok (.aload_n 0, 1) := by decide +kernel
theorem dX8_count_41 : decode cX8_count 41 = .ok (.getfield 25, 3) := by decide +kernel
theorem dX8_count_44 : decode cX8_count 44 = .ok (.iconst 0, 1) := by decide +kernel
theorem dX8_count_45 : decode cX8_count 45 = .ok (.dup2, 1) := by decide +kernel
theorem dX8_count_46 : decode cX8_count 46 = .ok (.laload, 1) := by decide +kernel
theorem dX8_count_47 : decode cX8_count 47 = .ok (.iload_n 1, 1) := by decide +kernel
theorem dX8_count_48 : decode cX8_count 48 = .ok (.ifCond .ne 8, 3) := by decide +kernel
theorem dX8_count_51 : decode cX8_count 51 = .ok (.iload_n 2, 1) := by decide +kernel
theorem dX8_count_52 : decode cX8_count 52 = .ok (.i2l, 1) := by decide +kernel
theorem dX8_count_53 : decode cX8_count 53 = .ok (.goto 4, 3) := by decide +kernel
theorem dX8_count_56 : decode cX8_count 56 = .ok (.lconst 0, 1) := by decide +kernel
theorem dX8_count_57 : decode cX8_count 57 = .ok (.ladd, 1) := by decide +kernel
theorem dX8_count_58 : decode cX8_count 58 = .ok (.lastore, 1) := by decide +kernel
theorem dX8_count_59 : decode cX8_count 59 = .ok (.iconst 1, 1) := by decide +kernel
theorem dX8_count_60 : decode cX8_count 60 = .ok (.istore 6, 2) := by decide +kernel
theorem dX8_count_62 : decode cX8_count 62 = .ok (.iload 6, 2) := by decide +kernel
theorem dX8_count_64 : decode cX8_count 64 = .ok (.bipush 12, 2) := by decide +kernel
theorem dX8_count_66 : decode cX8_count 66 = .ok (.if_icmp .ge 38, 3) := by decide +kernel
theorem dX8_count_69 : decode cX8_count 69 = .ok (.aload_n 0, 1) := by decide +kernel
theorem dX8_count_70 : decode cX8_count 70 = .ok (.getfield 25, 3) := by decide +kernel
theorem dX8_count_73 : decode cX8_count 73 = .ok (.iload 6, 2) := by decide +kernel
theorem dX8_count_75 : decode cX8_count 75 = .ok (.dup2, 1) := by decide +kernel
theorem dX8_count_76 : decode cX8_count 76 = .ok (.laload, 1) := by decide +kernel
theorem dX8_count_77 : decode cX8_count 77 = .ok (.iload_n 2, 1) := by decide +kernel
theorem dX8_count_78 : decode cX8_count 78 = .ok (.i2l, 1) := by decide +kernel
theorem dX8_count_79 : decode cX8_count 79 = .ok (.aload 4, 2) := by decide +kernel
theorem dX8_count_81 : decode cX8_count 81 = .ok (.getfield 82, 3) := by decide +kernel
theorem dX8_count_84 : decode cX8_count 84 = .ok (.iload 5, 2) := by decide +kernel
theorem dX8_count_86 : decode cX8_count 86 = .ok (.bipush 6, 2) := by decide +kernel
theorem dX8_count_88 : decode cX8_count 88 = .ok (.iadd, 1) := by decide +kernel
theorem dX8_count_89 : decode cX8_count 89 = .ok (.iload 6, 2) := by decide +kernel
theorem dX8_count_91 : decode cX8_count 91 = .ok (.iadd, 1) := by decide +kernel
theorem dX8_count_92 : decode cX8_count 92 = .ok (.iconst 1, 1) := by decide +kernel
theorem dX8_count_93 : decode cX8_count 93 = .ok (.isub, 1) := by decide +kernel
theorem dX8_count_94 : decode cX8_count 94 = .ok (.laload, 1) := by decide +kernel
theorem dX8_count_95 : decode cX8_count 95 = .ok (.lmul, 1) := by decide +kernel
theorem dX8_count_96 : decode cX8_count 96 = .ok (.ladd, 1) := by decide +kernel
theorem dX8_count_97 : decode cX8_count 97 = .ok (.lastore, 1) := by decide +kernel
theorem dX8_count_98 : decode cX8_count 98 = .ok (.iinc 6 1, 3) := by decide +kernel
theorem dX8_count_101 : decode cX8_count 101 = .ok (.goto (-39), 3) := by decide +kernel
theorem dX8_count_104 : decode cX8_count 104 = .ok (.return_, 1) := by decide +kernel
theorem dX8_store_0 : decode cX8_store 0 = .ok (.aload_n 0, 1) := by decide +kernel
theorem dX8_store_1 : decode cX8_store 1 = .ok (.iload_n 1, 1) := by decide +kernel
theorem dX8_store_2 : decode cX8_store 2 = .ok (.invokevirtual 74, 3) := by decide +kernel
theorem dX8_store_5 : decode cX8_store 5 = .ok (.istore_n 2, 1) := by decide +kernel
theorem dX8_store_6 : decode cX8_store 6 = .ok (.iload_n 2, 1) := by decide +kernel
theorem dX8_store_7 : decode cX8_store 7 = .ok (.bipush 64, 2) := by decide +kernel
theorem dX8_store_9 : decode cX8_store 9 = .ok (.idiv, 1) := by decide +kernel
theorem dX8_store_10 : decode cX8_store 10 = .ok (.istore_n 3, 1) := by decide +kernel
theorem dX8_store_11 : decode cX8_store 11 = .ok (.iload_n 3, 1) := by decide +kernel
theorem dX8_store_12 : decode cX8_store 12 = .ok (.sipush 848, 3) := by decide +kernel
theorem dX8_store_15 : decode cX8_store 15 = .ok (.if_icmp .lt 4, 3) := by decide +kernel
theorem dX8_store_18 : decode cX8_store 18 = .ok (.return_, 1) := by decide +kernel
theorem dX8_store_19 : decode cX8_store 19 = .ok (.aload_n 0, 1) := by decide +kernel
theorem dX8_store_20 : decode cX8_store 20 = .ok (.getfield 13, 3) := by decide +kernel
theorem dX8_store_23 : decode cX8_store 23 = .ok (.iload_n 3, 1) := by decide +kernel
theorem dX8_store_24 : decode cX8_store 24 = .ok (.aaload, 1) := by decide +kernel
theorem dX8_store_25 : decode cX8_store 25 = .ok (.ifnonnull 16, 3) := by decide +kernel
theorem dX8_store_28 : decode cX8_store 28 = .ok (.aload_n 0, 1) := by decide +kernel
theorem dX8_store_29 : decode cX8_store 29 = .ok (.getfield 13, 3) := by decide +kernel
theorem dX8_store_32 : decode cX8_store 32 = .ok (.iload_n 3, 1) := by decide +kernel
theorem dX8_store_33 : decode cX8_store 33 = .ok (.new 3, 3) := by decide +kernel
theorem dX8_store_36 : decode cX8_store 36 = .ok (.dup, 1) := by decide +kernel
theorem dX8_store_37 : decode cX8_store 37 = .ok (.invokespecial 120, 3) := by decide +kernel
theorem dX8_store_40 : decode cX8_store 40 = .ok (.aastore, 1) := by decide +kernel
theorem dX8_store_41 : decode cX8_store 41 = .ok (.aload_n 0, 1) := by decide +kernel
theorem dX8_store_42 : decode cX8_store 42 = .ok (.getfield 13, 3) := by decide +kernel
theorem dX8_store_45 : decode cX8_store 45 = .ok (.iload_n 3, 1) := by decide +kernel
theorem dX8_store_46 : decode cX8_store 46 = .ok (.aaload, 1) := by decide +kernel
theorem dX8_store_47 : decode cX8_store 47 = .ok (.getfield 82, 3) := by decide +kernel
theorem dX8_store_50 : decode cX8_store 50 = .ok (.astore 4, 2) := by decide +kernel
theorem dX8_store_52 : decode cX8_store 52 = .ok (.aload_n 0, 1) := by decide +kernel
theorem dX8_store_53 : decode cX8_store 53 = .ok (.getfield 35, 3) := by decide +kernel
theorem dX8_store_56 : decode cX8_store 56 = .ok (.getfield 114, 3) := by decide +kernel
theorem dX8_store_59 : decode cX8_store 59 = .ok (.iconst 0, 1) := by decide +kernel
theorem dX8_store_60 : decode cX8_store 60 = .ok (.aload 4, 2) := by decide +kernel
theorem dX8_store_62 : decode cX8_store 62 = .ok (.iload_n 2, 1) := by decide +kernel
theorem dX8_store_63 : decode cX8_store 63 = .ok (.invokestatic 85, 3) := by decide +kernel
theorem dX8_store_66 : decode cX8_store 66 = .ok (.bipush 6, 2) := by decide +kernel
theorem dX8_store_68 : decode cX8_store 68 = .ok (.invokestatic 92, 3) := by decide +kernel
theorem dX8_store_71 : decode cX8_store 71 = .ok (.aload_n 0, 1) := by decide +kernel
theorem dX8_store_72 : decode cX8_store 72 = .ok (.getfield 25, 3) := by decide +kernel
theorem dX8_store_75 : decode cX8_store 75 = .ok (.iconst 0, 1) := by decide +kernel
theorem dX8_store_76 : decode cX8_store 76 = .ok (.aload 4, 2) := by decide +kernel
theorem dX8_store_78 : decode cX8_store 78 = .ok (.iload_n 2, 1) := by decide +kernel
theorem dX8_store_79 : decode cX8_store 79 = .ok (.invokestatic 85, 3) := by decide +kernel
theorem dX8_store_82 : decode cX8_store 82 = .ok (.bipush 6, 2) := by decide +kernel
theorem dX8_store_84 : decode cX8_store 84 = .ok (.iadd, 1) := by decide +kernel
theorem dX8_store_85 : decode cX8_store 85 = .ok (.bipush 12, 2) := by decide +kernel
theorem dX8_store_87 : decode cX8_store 87 = .ok (.invokestatic 92, 3) := by decide +kernel
theorem dX8_store_90 : decode cX8_store 90 = .ok (.return_, 1) := by decide +kernel
theorem dX8_pick_0 : decode cX8_pick 0 = .ok (.iload_n 1, 1) := by decide +kernel
theorem dX8_pick_1 : decode cX8_pick 1 = .ok (.ifCond .ne 5, 3) := by decide +kernel
theorem dX8_pick_4 : decode cX8_pick 4 = .ok (.iconst 0, 1) := by decide +kernel
theorem dX8_pick_5 : decode cX8_pick 5 = .ok (.ireturn, 1) := by decide +kernel
theorem dX8_pick_6 : decode cX8_pick 6 = .ok (.aload_n 0, 1) := by decide +kernel
theorem dX8_pick_7 : decode cX8_pick 7 = .ok (.iconst (-1), 1) := by decide +kernel
theorem dX8_pick_8 : decode cX8_pick 8 = .ok (.putfield 121, 3) := by decide +kernel
theorem dX8_pick_11 : decode cX8_pick 11 = .ok (.iload_n 2, 1) := by decide +kernel
theorem dX8_pick_12 : decode cX8_pick 12 = .ok (.iload_n 3, 1) := by decide +kernel
theorem dX8_pick_13 : decode cX8_pick 13 = .ok (.if_icmp .ne 15, 3) := by decide +kernel
theorem dX8_pick_16 : decode cX8_pick 16 = .ok (.aload_n 0, 1) := by decide +kernel
theorem dX8_pick_17 : decode cX8_pick 17 = .ok (.iload_n 1, 1) := by decide +kernel
theorem dX8_pick_18 : decode cX8_pick 18 = .ok (.iload_n 2, 1) := by decide +kernel
theorem dX8_pick_19 : decode cX8_pick 19 = .ok (.iconst 4, 1) := by decide +kernel
theorem dX8_pick_20 : decode cX8_pick 20 = .ok (.bipush 6, 2) := by decide +kernel
theorem dX8_pick_22 : decode cX8_pick 22 = .ok (.invokevirtual 125, 3) := by decide +kernel
theorem dX8_pick_25 : decode cX8_pick 25 = .ok (.goto 17, 3) := by decide +kernel
theorem dX8_pick_28 : decode cX8_pick 28 = .ok (.aload_n 0, 1) := by decide +kernel
theorem dX8_pick_29 : decode cX8_pick 29 = .ok (.iload_n 1, 1) := by decide +kernel
theorem dX8_pick_30 : decode cX8_pick 30 = .ok (.iload_n 2, 1) := by decide +kernel
theorem dX8_pick_31 : decode cX8_pick 31 = .ok (.iload_n 3, 1) := by decide +kernel
theorem dX8_pick_32 : decode cX8_pick 32 = .ok (.invokevirtual 129, 3) := by decide +kernel
theorem dX8_pick_35 : decode cX8_pick 35 = .ok (.aload_n 0, 1) := by decide +kernel
theorem dX8_pick_36 : decode cX8_pick 36 = .ok (.iload_n 1, 1) := by decide +kernel
theorem dX8_pick_37 : decode cX8_pick 37 = .ok (.iload_n 3, 1) := by decide +kernel
theorem dX8_pick_38 : decode cX8_pick 38 = .ok (.iload_n 2, 1) := by decide +kernel
theorem dX8_pick_39 : decode cX8_pick 39 = .ok (.invokevirtual 129, 3) := by decide +kernel
theorem dX8_pick_42 : decode cX8_pick 42 = .ok (.aload_n 0, 1) := by decide +kernel
theorem dX8_pick_43 : decode cX8_pick 43 = .ok (.getfield 121, 3) := by decide +kernel
theorem dX8_pick_46 : decode cX8_pick 46 = .ok (.ireturn, 1) := by decide +kernel
theorem dX8_canBear_0 : decode cX8_canBear 0 = .ok (.iload_n 0, 1) := by decide +kernel
theorem dX8_canBear_1 : decode cX8_canBear 1 = .ok (.iconst 4, 1) := by decide +kernel
theorem dX8_canBear_2 : decode cX8_canBear 2 = .ok (.iload_n 1, 1) := by decide +kernel
theorem dX8_canBear_3 : decode cX8_canBear 3 = .ok (.iconst 1, 1) := by decide +kernel
theorem dX8_canBear_4 : decode cX8_canBear 4 = .ok (.isub, 1) := by decide +kernel
theorem dX8_canBear_5 : decode cX8_canBear 5 = .ok (.imul, 1) := by decide +kernel
theorem dX8_canBear_6 : decode cX8_canBear 6 = .ok (.ishr, 1) := by decide +kernel
theorem dX8_canBear_7 : decode cX8_canBear 7 = .ok (.bipush 15, 2) := by decide +kernel
theorem dX8_canBear_9 : decode cX8_canBear 9 = .ok (.iand, 1) := by decide +kernel
theorem dX8_canBear_10 : decode cX8_canBear 10 = .ok (.ifCond .le 20, 3) := by decide +kernel
theorem dX8_canBear_13 : decode cX8_canBear 13 = .ok (.iload_n 1, 1) := by decide +kernel
theorem dX8_canBear_14 : decode cX8_canBear 14 = .ok (.iload_n 2, 1) := by decide +kernel
theorem dX8_canBear_15 : decode cX8_canBear 15 = .ok (.if_icmp .ge 11, 3) := by decide +kernel
theorem dX8_canBear_18 : decode cX8_canBear 18 = .ok (.iload_n 0, 1) := by decide +kernel
theorem dX8_canBear_19 : decode cX8_canBear 19 = .ok (.iconst 4, 1) := by decide +kernel
theorem dX8_canBear_20 : decode cX8_canBear 20 = .ok (.iload_n 1, 1) := by decide +kernel
theorem dX8_canBear_21 : decode cX8_canBear 21 = .ok (.imul, 1) := by decide +kernel
theorem dX8_canBear_22 : decode cX8_canBear 22 = .ok (.ishr, 1) := by decide +kernel
theorem dX8_canBear_23 : decode cX8_canBear 23 = .ok (.ifCond .ne 7, 3) := by decide +kernel
theorem dX8_canBear_26 : decode cX8_canBear 26 = .ok (.iconst 1, 1) := by decide +kernel
theorem dX8_canBear_27 : decode cX8_canBear 27 = .ok (.goto 4, 3) := by decide +kernel
theorem dX8_canBear_30 : decode cX8_canBear 30 = .ok (.iconst 0, 1) := by decide +kernel
theorem dX8_canBear_31 : decode cX8_canBear 31 = .ok (.ireturn, 1) := by decide +kernel
theorem dX8_bear_0 : decode cX8_bear 0 = .ok (.iload_n 0, 1) := by decide +kernel
theorem dX8_bear_1 : decode cX8_bear 1 = .ok (.iconst 1, 1) := by decide +kernel
theorem dX8_bear_2 : decode cX8_bear 2 = .ok (.iconst 4, 1) := by decide +kernel
theorem dX8_bear_3 : decode cX8_bear 3 = .ok (.iload_n 1, 1) := by decide +kernel
theorem dX8_bear_4 : decode cX8_bear 4 = .ok (.iconst 1, 1) := by decide +kernel
theorem dX8_bear_5 : decode cX8_bear 5 = .ok (.isub, 1) := by decide +kernel
theorem dX8_bear_6 : decode cX8_bear 6 = .ok (.imul, 1) := by decide +kernel
theorem dX8_bear_7 : decode cX8_bear 7 = .ok (.ishl, 1) := by decide +kernel
theorem dX8_bear_8 : decode cX8_bear 8 = .ok (.isub, 1) := by decide +kernel
theorem dX8_bear_9 : decode cX8_bear 9 = .ok (.istore_n 3, 1) := by decide +kernel
theorem dX8_bear_10 : decode cX8_bear 10 = .ok (.iload_n 1, 1) := by decide +kernel
theorem dX8_bear_11 : decode cX8_bear 11 = .ok (.iload_n 2, 1) := by decide +kernel
theorem dX8_bear_12 : decode cX8_bear 12 = .ok (.if_icmp .le 17, 3) := by decide +kernel
theorem dX8_bear_15 : decode cX8_bear 15 = .ok (.iload_n 3, 1) := by decide +kernel
theorem dX8_bear_16 : decode cX8_bear 16 = .ok (.iconst 1, 1) := by decide +kernel
theorem dX8_bear_17 : decode cX8_bear 17 = .ok (.iconst 4, 1) := by decide +kernel
theorem dX8_bear_18 : decode cX8_bear 18 = .ok (.iload_n 1, 1) := by decide +kernel
theorem dX8_bear_19 : decode cX8_bear 19 = .ok (.iload_n 2, 1) := by decide +kernel
theorem dX8_bear_20 : decode cX8_bear 20 = .ok (.isub, 1) := by decide +kernel
theorem dX8_bear_21 : decode cX8_bear 21 = .ok (.iconst 1, 1) := by decide +kernel
theorem dX8_bear_22 : decode cX8_bear 22 = .ok (.isub, 1) := by decide +kernel
theorem dX8_bear_23 : decode cX8_bear 23 = .ok (.imul, 1) := by decide +kernel
theorem dX8_bear_24 : decode cX8_bear 24 = .ok (.ishl, 1) := by decide +kernel
theorem dX8_bear_25 : decode cX8_bear 25 = .ok (.iadd, 1) := by decide +kernel
theorem dX8_bear_26 : decode cX8_bear 26 = .ok (.goto 4, 3) := by decide +kernel
theorem dX8_bear_29 : decode cX8_bear 29 = .ok (.iload_n 3, 1) := by decide +kernel
theorem dX8_bear_30 : decode cX8_bear 30 = .ok (.ireturn, 1) := by decide +kernel
theorem dX8_bearAlike_0 : decode cX8_bearAlike 0 = .ok (.iload_n 1, 1) := by decide +kernel
theorem dX8_bearAlike_1 : decode cX8_bearAlike 1 = .ok (.ifCond .eq 7, 3) := by decide +kernel
theorem dX8_bearAlike_4 : decode cX8_bearAlike 4 = .ok (.iload_n 3, 1) := by decide +kernel
theorem dX8_bearAlike_5 : decode cX8_bearAlike 5 = .ok (.ifCond .ne 9, 3) := by decide +kernel
theorem dX8_bearAlike_8 : decode cX8_bearAlike 8 = .ok (.aload_n 0, 1) := by decide +kernel
theorem dX8_bearAlike_9 : decode cX8_bearAlike 9 = .ok (.iload_n 1, 1) := by decide +kernel
theorem dX8_bearAlike_10 : decode cX8_bearAlike 10 = .ok (.invokevirtual 133, 3) := by decide +kernel
theorem dX8_bearAlike_13 : decode cX8_bearAlike 13 = .ok (.return_, 1) := by decide +kernel
theorem dX8_bearAlike_14 : decode cX8_bearAlike 14 = .ok (.iconst 1, 1) := by decide +kernel
theorem dX8_bearAlike_15 : decode cX8_bearAlike 15 = .ok (.istore 5, 2) := by decide +kernel
theorem dX8_bearAlike_17 : decode cX8_bearAlike 17 = .ok (.iload 5, 2) := by decide +kernel
theorem dX8_bearAlike_19 : decode cX8_bearAlike 19 = .ok (.iload 4, 2) := by decide +kernel
theorem dX8_bearAlike_21 : decode cX8_bearAlike 21 = .ok (.if_icmp .gt 36, 3) := by decide +kernel
theorem dX8_bearAlike_24 : decode cX8_bearAlike 24 = .ok (.iload_n 1, 1) := by decide +kernel
theorem dX8_bearAlike_25 : decode cX8_bearAlike 25 = .ok (.iload 5, 2) := by decide +kernel
theorem dX8_bearAlike_27 : decode cX8_bearAlike 27 = .ok (.iload_n 2, 1) := by decide +kernel
theorem dX8_bearAlike_28 : decode cX8_bearAlike 28 = .ok (.invokestatic 136, 3) := by decide +kernel
theorem dX8_bearAlike_31 : decode cX8_bearAlike 31 = .ok (.ifCond .eq 20, 3) := by decide +kernel
theorem dX8_bearAlike_34 : decode cX8_bearAlike 34 = .ok (.aload_n 0, 1) := by decide +kernel
theorem dX8_bearAlike_35 : decode cX8_bearAlike 35 = .ok (.iload_n 1, 1) := by decide +kernel
theorem dX8_bearAlike_36 : decode cX8_bearAlike 36 = .ok (.iload 5, 2) := by decide +kernel
theorem dX8_bearAlike_38 : decode cX8_bearAlike 38 = .ok (.iload_n 2, 1) := by decide +kernel
theorem dX8_bearAlike_39 : decode cX8_bearAlike 39 = .ok (.invokestatic 140, 3) := by decide +kernel
theorem dX8_bearAlike_42 : decode cX8_bearAlike 42 = .ok (.iload_n 2, 1) := by decide +kernel
theorem dX8_bearAlike_43 : decode cX8_bearAlike 43 = .ok (.iload_n 3, 1) := by decide +kernel
theorem dX8_bearAlike_44 : decode cX8_bearAlike 44 = .ok (.iconst 1, 1) := by decide +kernel
theorem dX8_bearAlike_45 : decode cX8_bearAlike 45 = .ok (.isub, 1) := by decide +kernel
theorem dX8_bearAlike_46 : decode cX8_bearAlike 46 = .ok (.iload 5, 2) := by decide +kernel
theorem dX8_bearAlike_48 : decode cX8_bearAlike 48 = .ok (.invokevirtual 125, 3) := by decide +kernel
theorem dX8_bearAlike_51 : decode cX8_bearAlike 51 = .ok (.iinc 5 1, 3) := by decide +kernel
theorem dX8_bearAlike_54 : decode cX8_bearAlike 54 = .ok (.goto (-37), 3) := by decide +kernel
theorem dX8_bearAlike_57 : decode cX8_bearAlike 57 = .ok (.return_, 1) := by decide +kernel
theorem dX8_bearByBoth_0 : decode cX8_bearByBoth 0 = .ok (.iconst 1, 1) := by decide +kernel
theorem dX8_bearByBoth_1 : decode cX8_bearByBoth 1 = .ok (.istore 4, 2) := by decide +kernel
theorem dX8_bearByBoth_3 : decode cX8_bearByBoth 3 = .ok (.iload 4, 2) := by decide +kernel
theorem dX8_bearByBoth_5 : decode cX8_bearByBoth 5 = .ok (.bipush 6, 2) := by decide +kernel
theorem dX8_bearByBoth_7 : decode cX8_bearByBoth 7 = .ok (.if_icmp .gt 78, 3) := by decide +kernel
theorem dX8_bearByBoth_10 : decode cX8_bearByBoth 10 = .ok (.iload_n 1, 1) := by decide +kernel
theorem dX8_bearByBoth_11 : decode cX8_bearByBoth 11 = .ok (.iload 4, 2) := by decide +kernel
theorem dX8_bearByBoth_13 : decode cX8_bearByBoth 13 = .ok (.iload_n 2, 1) := by decide +kernel
theorem dX8_bearByBoth_14 : decode cX8_bearByBoth 14 = .ok (.invokestatic 136, 3) := by decide +kernel
theorem dX8_bearByBoth_17 : decode cX8_bearByBoth 17 = .ok (.ifCond .eq 62, 3) := by decide +kernel
theorem dX8_bearByBoth_20 : decode cX8_bearByBoth 20 = .ok (.iload_n 1, 1) := by decide +kernel
theorem dX8_bearByBoth_21 : decode cX8_bearByBoth 21 = .ok (.iload 4, 2) := by decide +kernel
theorem dX8_bearByBoth_23 : decode cX8_bearByBoth 23 = .ok (.iload_n 2, 1) := by decide +kernel
theorem dX8_bearByBoth_24 : decode cX8_bearByBoth 24 = .ok (.invokestatic 140, 3) := by decide +kernel
theorem dX8_bearByBoth_27 : decode cX8_bearByBoth 27 = .ok (.istore 5, 2) := by decide +kernel
theorem dX8_bearByBoth_29 : decode cX8_bearByBoth 29 = .ok (.iload 5, 2) := by decide +kernel
theorem dX8_bearByBoth_31 : decode cX8_bearByBoth 31 = .ok (.ifCond .ne 9, 3) := by decide +kernel
theorem dX8_bearByBoth_34 : decode cX8_bearByBoth 34 = .ok (.aload_n 0, 1) := by decide +kernel
theorem dX8_bearByBoth_35 : decode cX8_bearByBoth 35 = .ok (.iload 5, 2) := by decide +kernel
theorem dX8_bearByBoth_37 : decode cX8_bearByBoth 37 = .ok (.invokevirtual 133, 3) := by decide +kernel
theorem dX8_bearByBoth_40 : decode cX8_bearByBoth 40 = .ok (.iconst 1, 1) := by decide +kernel
theorem dX8_bearByBoth_41 : decode cX8_bearByBoth 41 = .ok (.istore 6, 2) := by decide +kernel
theorem dX8_bearByBoth_43 : decode cX8_bearByBoth 43 = .ok (.iload 6, 2) := by decide +kernel
theorem dX8_bearByBoth_45 : decode cX8_bearByBoth 45 = .ok (.bipush 6, 2) := by decide +kernel
theorem dX8_bearByBoth_47 : decode cX8_bearByBoth 47 = .ok (.if_icmp .gt 32, 3) := by decide +kernel
theorem dX8_bearByBoth_50 : decode cX8_bearByBoth 50 = .ok (.iload 5, 2) := by decide +kernel
theorem dX8_bearByBoth_52 : decode cX8_bearByBoth 52 = .ok (.iload 6, 2) := by decide +kernel
theorem dX8_bearByBoth_54 : decode cX8_bearByBoth 54 = .ok (.iload_n 3, 1) := by decide +kernel
theorem dX8_bearByBoth_55 : decode cX8_bearByBoth 55 = .ok (.invokestatic 136, 3) := by decide +kernel
theorem dX8_bearByBoth_58 : decode cX8_bearByBoth 58 = .ok (.ifCond .eq 15, 3) := by decide +kernel
theorem dX8_bearByBoth_61 : decode cX8_bearByBoth 61 = .ok (.aload_n 0, 1) := by decide +kernel
theorem dX8_bearByBoth_62 : decode cX8_bearByBoth 62 = .ok (.iload 5, 2) := by decide +kernel
theorem dX8_bearByBoth_64 : decode cX8_bearByBoth 64 = .ok (.iload 6, 2) := by decide +kernel
theorem dX8_bearByBoth_66 : decode cX8_bearByBoth 66 = .ok (.iload_n 3, 1) := by decide +kernel
theorem dX8_bearByBoth_67 : decode cX8_bearByBoth 67 = .ok (.invokestatic 140, 3) := by decide +kernel
theorem dX8_bearByBoth_70 : decode cX8_bearByBoth 70 = .ok (.invokevirtual 133, 3) := by decide +kernel
theorem dX8_bearByBoth_73 : decode cX8_bearByBoth 73 = .ok (.iinc 6 1, 3) := by decide +kernel
theorem dX8_bearByBoth_76 : decode cX8_bearByBoth 76 = .ok (.goto (-33), 3) := by decide +kernel
theorem dX8_bearByBoth_79 : decode cX8_bearByBoth 79 = .ok (.iinc 4 1, 3) := by decide +kernel
theorem dX8_bearByBoth_82 : decode cX8_bearByBoth 82 = .ok (.goto (-79), 3) := by decide +kernel
theorem dX8_bearByBoth_85 : decode cX8_bearByBoth 85 = .ok (.return_, 1) := by decide +kernel
theorem dX8_consider_0 : decode cX8_consider 0 = .ok (.iload_n 1, 1) := by decide +kernel
theorem dX8_consider_1 : decode cX8_consider 1 = .ok (.aload_n 0, 1) := by decide +kernel
theorem dX8_consider_2 : decode cX8_consider 2 = .ok (.getfield 121, 3) := by decide +kernel
theorem dX8_consider_5 : decode cX8_consider 5 = .ok (.if_icmp .ne 4, 3) := by decide +kernel
theorem dX8_consider_8 : decode cX8_consider 8 = .ok (.return_, 1) := by decide +kernel
theorem dX8_consider_9 : decode cX8_consider 9 = .ok (.aload_n 0, 1) := by decide +kernel
theorem dX8_consider_10 : decode cX8_consider 10 = .ok (.iload_n 1, 1) := by decide +kernel
theorem dX8_consider_11 : decode cX8_consider 11 = .ok (.invokevirtual 74, 3) := by decide +kernel
theorem dX8_consider_14 : decode cX8_consider 14 = .ok (.istore_n 2, 1) := by decide +kernel
theorem dX8_consider_15 : decode cX8_consider 15 = .ok (.aload_n 0, 1) := by decide +kernel
theorem dX8_consider_16 : decode cX8_consider 16 = .ok (.iload_n 2, 1) := by decide +kernel
theorem dX8_consider_17 : decode cX8_consider 17 = .ok (.invokevirtual 78, 3) := by decide +kernel
theorem dX8_consider_20 : decode cX8_consider 20 = .ok (.astore_n 3, 1) := by decide +kernel
theorem dX8_consider_21 : decode cX8_consider 21 = .ok (.aload_n 3, 1) := by decide +kernel
theorem dX8_consider_22 : decode cX8_consider 22 = .ok (.ifnonnull 4, 3) := by decide +kernel
theorem dX8_consider_25 : decode cX8_consider 25 = .ok (.return_, 1) := by decide +kernel
theorem dX8_consider_26 : decode cX8_consider 26 = .ok (.iload_n 2, 1) := by decide +kernel
theorem dX8_consider_27 : decode cX8_consider 27 = .ok (.invokestatic 85, 3) := by decide +kernel
theorem dX8_consider_30 : decode cX8_consider 30 = .ok (.istore 4, 2) := by decide +kernel
theorem dX8_consider_32 : decode cX8_consider 32 = .ok (.aload_n 0, 1) := by decide +kernel
theorem dX8_consider_33 : decode cX8_consider 33 = .ok (.getfield 121, 3) := by decide +kernel
theorem dX8_consider_36 : decode cX8_consider 36 = .ok (.iconst (-1), 1) := by decide +kernel
theorem dX8_consider_37 : decode cX8_consider 37 = .ok (.if_icmp .eq 51, 3) := by decide +kernel
theorem dX8_consider_40 : decode cX8_consider 40 = .ok (.aload_n 0, 1) := by decide +kernel
theorem dX8_consider_41 : decode cX8_consider 41 = .ok (.getfield 143, 3) := by decide +kernel
theorem dX8_consider_44 : decode cX8_consider 44 = .ok (.ifnull 44, 3) := by decide +kernel
theorem dX8_consider_47 : decode cX8_consider 47 = .ok (.aload_n 3, 1) := by decide +kernel
theorem dX8_consider_48 : decode cX8_consider 48 = .ok (.getfield 82, 3) := by decide +kernel
theorem dX8_consider_51 : decode cX8_consider 51 = .ok (.iload 4, 2) := by decide +kernel
theorem dX8_consider_53 : decode cX8_consider 53 = .ok (.aload_n 0, 1) := by decide +kernel
theorem dX8_consider_54 : decode cX8_consider 54 = .ok (.getfield 143, 3) := by decide +kernel
theorem dX8_consider_57 : decode cX8_consider 57 = .ok (.getfield 82, 3) := by decide +kernel
theorem dX8_consider_60 : decode cX8_consider 60 = .ok (.aload_n 0, 1) := by decide +kernel
theorem dX8_consider_61 : decode cX8_consider 61 = .ok (.getfield 147, 3) := by decide +kernel
theorem dX8_consider_64 : decode cX8_consider 64 = .ok (.invokestatic 150, 3) := by decide +kernel
theorem dX8_consider_67 : decode cX8_consider 67 = .ok (.istore 5, 2) := by decide +kernel
theorem dX8_consider_69 : decode cX8_consider 69 = .ok (.iload 5, 2) := by decide +kernel
theorem dX8_consider_71 : decode cX8_consider 71 = .ok (.ifCond .gt 16, 3) := by decide +kernel
theorem dX8_consider_74 : decode cX8_consider 74 = .ok (.iload 5, 2) := by decide +kernel
theorem dX8_consider_76 : decode cX8_consider 76 = .ok (.ifCond .ne 12, 3) := by decide +kernel
theorem dX8_consider_79 : decode cX8_consider 79 = .ok (.iload_n 1, 1) := by decide +kernel
theorem dX8_consider_80 : decode cX8_consider 80 = .ok (.aload_n 0, 1) := by decide +kernel
theorem dX8_consider_81 : decode cX8_consider 81 = .ok (.getfield 121, 3) := by decide +kernel
theorem dX8_consider_84 : decode cX8_consider 84 = .ok (.if_icmp .ge 4, 3) := by decide +kernel
theorem dX8_consider_87 : decode cX8_consider 87 = .ok (.return_, 1) := by decide +kernel
theorem dX8_consider_88 : decode cX8_consider 88 = .ok (.aload_n 0, 1) := by decide +kernel
theorem dX8_consider_89 : decode cX8_consider 89 = .ok (.iload_n 1, 1) := by decide +kernel
theorem dX8_consider_90 : decode cX8_consider 90 = .ok (.putfield 121, 3) := by decide +kernel
theorem dX8_consider_93 : decode cX8_consider 93 = .ok (.aload_n 0, 1) := by decide +kernel
theorem dX8_consider_94 : decode cX8_consider 94 = .ok (.aload_n 3, 1) := by decide +kernel
theorem dX8_consider_95 : decode cX8_consider 95 = .ok (.putfield 143, 3) := by decide +kernel
theorem dX8_consider_98 : decode cX8_consider 98 = .ok (.aload_n 0, 1) := by decide +kernel
theorem dX8_consider_99 : decode cX8_consider 99 = .ok (.iload 4, 2) := by decide +kernel
theorem dX8_consider_101 : decode cX8_consider 101 = .ok (.putfield 147, 3) := by decide +kernel
theorem dX8_consider_104 : decode cX8_consider 104 = .ok (.return_, 1) := by decide +kernel
theorem dX8_compareRolls_0 : decode cX8_compareRolls 0 = .ok (.iconst 5, 1) := by decide +kernel
theorem dX8_compareRolls_1 : decode cX8_compareRolls 1 = .ok (.istore 4, 2) := by decide +kernel
theorem dX8_compareRolls_3 : decode cX8_compareRolls 3 = .ok (.iload 4, 2) := by decide +kernel
theorem dX8_compareRolls_5 : decode cX8_compareRolls 5 = .ok (.ifCond .lt 47, 3) := by decide +kernel
theorem dX8_compareRolls_8 : decode cX8_compareRolls 8 = .ok (.aload_n 0, 1) := by decide +kernel
theorem dX8_compareRolls_9 : decode cX8_compareRolls 9 = .ok (.iload_n 1, 1) := by decide +kernel
theorem dX8_compareRolls_10 : decode cX8_compareRolls 10 = .ok (.iload 4, 2) := by decide +kernel
theorem dX8_compareRolls_12 : decode cX8_compareRolls 12 = .ok (.iadd, 1) := by decide +kernel
theorem dX8_compareRolls_13 : decode cX8_compareRolls 13 = .ok (.laload, 1) := by decide +kernel
theorem dX8_compareRolls_14 : decode cX8_compareRolls 14 = .ok (.aload_n 2, 1) := by decide +kernel
theorem dX8_compareRolls_15 : decode cX8_compareRolls 15 = .ok (.iload_n 3, 1) := by decide +kernel
theorem dX8_compareRolls_16 : decode cX8_compareRolls 16 = .ok (.iload 4, 2) := by decide +kernel
theorem dX8_compareRolls_18 : decode cX8_compareRolls 18 = .ok (.iadd, 1) := by decide +kernel
theorem dX8_compareRolls_19 : decode cX8_compareRolls 19 = .ok (.laload, 1) := by decide +kernel
theorem dX8_compareRolls_20 : decode cX8_compareRolls 20 = .ok (.lcmp, 1) := by decide +kernel
theorem dX8_compareRolls_21 : decode cX8_compareRolls 21 = .ok (.ifCond .eq 25, 3) := by decide +kernel
theorem dX8_compareRolls_24 : decode cX8_compareRolls 24 = .ok (.aload_n 0, 1) := by decide +kernel
theorem dX8_compareRolls_25 : decode cX8_compareRolls 25 = .ok (.iload_n 1, 1) := by decide +kernel
theorem dX8_compareRolls_26 : decode cX8_compareRolls 26 = .ok (.iload 4, 2) := by decide +kernel
theorem dX8_compareRolls_28 : decode cX8_compareRolls 28 = .ok (.iadd, 1) := by decide +kernel
theorem dX8_compareRolls_29 : decode cX8_compareRolls 29 = .ok (.laload, 1) := by decide +kernel
theorem dX8_compareRolls_30 : decode cX8_compareRolls 30 = .ok (.aload_n 2, 1) := by decide +kernel
theorem dX8_compareRolls_31 : decode cX8_compareRolls 31 = .ok (.iload_n 3, 1) := by decide +kernel
theorem dX8_compareRolls_32 : decode cX8_compareRolls 32 = .ok (.iload 4, 2) := by decide +kernel
theorem dX8_compareRolls_34 : decode cX8_compareRolls 34 = .ok (.iadd, 1) := by decide +kernel
theorem dX8_compareRolls_35 : decode cX8_compareRolls 35 = .ok (.laload, 1) := by decide +kernel
theorem dX8_compareRolls_36 : decode cX8_compareRolls 36 = .ok (.lcmp, 1) := by decide +kernel
theorem dX8_compareRolls_37 : decode cX8_compareRolls 37 = .ok (.ifCond .ge 7, 3) := by decide +kernel
theorem dX8_compareRolls_40 : decode cX8_compareRolls 40 = .ok (.iconst (-1), 1) := by decide +kernel
theorem dX8_compareRolls_41 : decode cX8_compareRolls 41 = .ok (.goto 4, 3) := by decide +kernel
theorem dX8_compareRolls_44 : decode cX8_compareRolls 44 = .ok (.iconst 1, 1) := by decide +kernel
theorem dX8_compareRolls_45 : decode cX8_compareRolls 45 = .ok (.ireturn, 1) := by decide +kernel
theorem dX8_compareRolls_46 : decode cX8_compareRolls 46 = .ok (.iinc 4 (-1), 3) := by decide +kernel
theorem dX8_compareRolls_49 : decode cX8_compareRolls 49 = .ok (.goto (-46), 3) := by decide +kernel
theorem dX8_compareRolls_52 : decode cX8_compareRolls 52 = .ok (.iconst 0, 1) := by decide +kernel
theorem dX8_compareRolls_53 : decode cX8_compareRolls 53 = .ok (.ireturn, 1) := by decide +kernel
theorem dX8_putRace_0 : decode cX8_putRace 0 = .ok (.aload_n 3, 1) := by decide +kernel
theorem dX8_putRace_1 : decode cX8_putRace 1 = .ok (.lconst 0, 1) := by decide +kernel
theorem dX8_putRace_2 : decode cX8_putRace 2 = .ok (.invokevirtual 43, 3) := by decide +kernel
theorem dX8_putRace_5 : decode cX8_putRace 5 = .ok (.lconst 0, 1) := by decide +kernel
theorem dX8_putRace_6 : decode cX8_putRace 6 = .ok (.lstore 4, 2) := by decide +kernel
theorem dX8_putRace_8 : decode cX8_putRace 8 = .ok (.iconst 1, 1) := by decide +kernel
theorem dX8_putRace_9 : decode cX8_putRace 9 = .ok (.istore 6, 2) := by decide +kernel
theorem dX8_putRace_11 : decode cX8_putRace 11 = .ok (.iload 6, 2) := by decide +kernel
theorem dX8_putRace_13 : decode cX8_putRace 13 = .ok (.bipush 12, 2) := by decide +kernel
theorem dX8_putRace_15 : decode cX8_putRace 15 = .ok (.if_icmp .gt 98, 3) := by decide +kernel
theorem dX8_putRace_18 : decode cX8_putRace 18 = .ok (.aload_n 0, 1) := by decide +kernel
theorem dX8_putRace_19 : decode cX8_putRace 19 = .ok (.iload_n 1, 1) := by decide +kernel
theorem dX8_putRace_20 : decode cX8_putRace 20 = .ok (.iload 6, 2) := by decide +kernel
theorem dX8_putRace_22 : decode cX8_putRace 22 = .ok (.invokevirtual 70, 3) := by decide +kernel
theorem dX8_putRace_25 : decode cX8_putRace 25 = .ok (.aload_n 0, 1) := by decide +kernel
theorem dX8_putRace_26 : decode cX8_putRace 26 = .ok (.getfield 21, 3) := by decide +kernel
theorem dX8_putRace_29 : decode cX8_putRace 29 = .ok (.bipush 12, 2) := by decide +kernel
theorem dX8_putRace_31 : decode cX8_putRace 31 = .ok (.iload 6, 2) := by decide +kernel
theorem dX8_putRace_33 : decode cX8_putRace 33 = .ok (.isub, 1) := by decide +kernel
theorem dX8_putRace_34 : decode cX8_putRace 34 = .ok (.laload, 1) := by decide +kernel
theorem dX8_putRace_35 : decode cX8_putRace 35 = .ok (.lmul, 1) := by decide +kernel
theorem dX8_putRace_36 : decode cX8_putRace 36 = .ok (.lstore 7, 2) := by decide +kernel
theorem dX8_putRace_38 : decode cX8_putRace 38 = .ok (.aload_n 0, 1) := by decide +kernel
theorem dX8_putRace_39 : decode cX8_putRace 39 = .ok (.iload_n 2, 1) := by decide +kernel
theorem dX8_putRace_40 : decode cX8_putRace 40 = .ok (.iload 6, 2) := by decide +kernel
theorem dX8_putRace_42 : decode cX8_putRace 42 = .ok (.iconst 1, 1) := by decide +kernel
theorem dX8_putRace_43 : decode cX8_putRace 43 = .ok (.isub, 1) := by decide +kernel
theorem dX8_putRace_44 : decode cX8_putRace 44 = .ok (.invokevirtual 70, 3) := by decide +kernel
theorem dX8_putRace_47 : decode cX8_putRace 47 = .ok (.aload_n 0, 1) := by decide +kernel
theorem dX8_putRace_48 : decode cX8_putRace 48 = .ok (.getfield 21, 3) := by decide +kernel
theorem dX8_putRace_51 : decode cX8_putRace 51 = .ok (.bipush 12, 2) := by decide +kernel
theorem dX8_putRace_53 : decode cX8_putRace 53 = .ok (.iload 6, 2) := by decide +kernel
theorem dX8_putRace_55 : decode cX8_putRace 55 = .ok (.isub, 1) := by decide +kernel
theorem dX8_putRace_56 : decode cX8_putRace 56 = .ok (.iconst 1, 1) := by decide +kernel
theorem dX8_putRace_57 : decode cX8_putRace 57 = .ok (.iadd, 1) := by decide +kernel
theorem dX8_putRace_58 : decode cX8_putRace 58 = .ok (.laload, 1) := by decide +kernel
theorem dX8_putRace_59 : decode cX8_putRace 59 = .ok (.lmul, 1) := by decide +kernel
theorem dX8_putRace_60 : decode cX8_putRace 60 = .ok (.lstore 9, 2) := by decide +kernel
theorem dX8_putRace_62 : decode cX8_putRace 62 = .ok (.aload_n 0, 1) := by decide +kernel
theorem dX8_putRace_63 : decode cX8_putRace 63 = .ok (.getfield 35, 3) := by decide +kernel
theorem dX8_putRace_66 : decode cX8_putRace 66 = .ok (.lload 7, 2) := by decide +kernel
theorem dX8_putRace_68 : decode cX8_putRace 68 = .ok (.lload 4, 2) := by decide +kernel
theorem dX8_putRace_70 : decode cX8_putRace 70 = .ok (.lsub, 1) := by decide +kernel
theorem dX8_putRace_71 : decode cX8_putRace 71 = .ok (.invokevirtual 43, 3) := by decide +kernel
theorem dX8_putRace_74 : decode cX8_putRace 74 = .ok (.aload_n 0, 1) := by decide +kernel
theorem dX8_putRace_75 : decode cX8_putRace 75 = .ok (.getfield 38, 3) := by decide +kernel
theorem dX8_putRace_78 : decode cX8_putRace 78 = .ok (.aload_n 0, 1) := by decide +kernel
theorem dX8_putRace_79 : decode cX8_putRace 79 = .ok (.getfield 21, 3) := by decide +kernel
theorem dX8_putRace_82 : decode cX8_putRace 82 = .ok (.bipush 12, 2) := by decide +kernel
theorem dX8_putRace_84 : decode cX8_putRace 84 = .ok (.laload, 1) := by decide +kernel
theorem dX8_putRace_85 : decode cX8_putRace 85 = .ok (.lload 9, 2) := by decide +kernel
theorem dX8_putRace_87 : decode cX8_putRace 87 = .ok (.lsub, 1) := by decide +kernel
theorem dX8_putRace_88 : decode cX8_putRace 88 = .ok (.invokevirtual 43, 3) := by decide +kernel
theorem dX8_putRace_91 : decode cX8_putRace 91 = .ok (.aload_n 3, 1) := by decide +kernel
theorem dX8_putRace_92 : decode cX8_putRace 92 = .ok (.aload_n 0, 1) := by decide +kernel
theorem dX8_putRace_93 : decode cX8_putRace 93 = .ok (.getfield 35, 3) := by decide +kernel
theorem dX8_putRace_96 : decode cX8_putRace 96 = .ok (.aload_n 0, 1) := by decide +kernel
theorem dX8_putRace_97 : decode cX8_putRace 97 = .ok (.getfield 38, 3) := by decide +kernel
theorem dX8_putRace_100 : decode cX8_putRace 100 = .ok (.invokevirtual 154, 3) := by decide +kernel
theorem dX8_putRace_103 : decode cX8_putRace 103 = .ok (.lload 7, 2) := by decide +kernel
theorem dX8_putRace_105 : decode cX8_putRace 105 = .ok (.lstore 4, 2) := by decide +kernel
theorem dX8_putRace_107 : decode cX8_putRace 107 = .ok (.iinc 6 1, 3) := by decide +kernel
theorem dX8_putRace_110 : decode cX8_putRace 110 = .ok (.goto (-99), 3) := by decide +kernel
theorem dX8_putRace_113 : decode cX8_putRace 113 = .ok (.return_, 1) := by decide +kernel
theorem dX9_init_0 : decode cX9_init 0 = .ok (.aload_n 0, 1) := by decide +kernel
theorem dX9_init_1 : decode cX9_init 1 = .ok (.invokespecial 3, 3) := by decide +kernel
theorem dX9_init_4 : decode cX9_init 4 = .ok (.aload_n 0, 1) := by decide +kernel
theorem dX9_init_5 : decode cX9_init 5 = .ok (.new 9, 3) := by decide +kernel
theorem dX9_init_8 : decode cX9_init 8 = .ok (.dup, 1) := by decide +kernel
theorem dX9_init_9 : decode cX9_init 9 = .ok (.invokespecial 11, 3) := by decide +kernel
theorem dX9_init_12 : decode cX9_init 12 = .ok (.putfield 12, 3) := by decide +kernel
theorem dX9_init_15 : decode cX9_init 15 = .ok (.aload_n 0, 1) := by decide +kernel
theorem dX9_init_16 : decode cX9_init 16 = .ok (.bipush 8, 2) := by decide +kernel
theorem dX9_init_18 : decode cX9_init 18 = .ok (.newarray .int, 2) := by decide +kernel
theorem dX9_init_20 : decode cX9_init 20 = .ok (.putfield 18, 3) := by decide +kernel
theorem dX9_init_23 : decode cX9_init 23 = .ok (.aload_n 0, 1) := by decide +kernel
theorem dX9_init_24 : decode cX9_init 24 = .ok (.bipush 8, 2) := by decide +kernel
theorem dX9_init_26 : decode cX9_init 26 = .ok (.newarray .int, 2) := by decide +kernel
theorem dX9_init_28 : decode cX9_init 28 = .ok (.putfield 22, 3) := by decide +kernel
theorem dX9_init_31 : decode cX9_init 31 = .ok (.aload_n 0, 1) := by decide +kernel
theorem dX9_init_32 : decode cX9_init 32 = .ok (.bipush 8, 2) := by decide +kernel
theorem dX9_init_34 : decode cX9_init 34 = .ok (.newarray .boolean, 2) := by decide +kernel
theorem dX9_init_36 : decode cX9_init 36 = .ok (.putfield 25, 3) := by decide +kernel
theorem dX9_init_39 : decode cX9_init 39 = .ok (.aload_n 0, 1) := by decide +kernel
theorem dX9_init_40 : decode cX9_init 40 = .ok (.aload_n 1, 1) := by decide +kernel
theorem dX9_init_41 : decode cX9_init 41 = .ok (.putfield 29, 3) := by decide +kernel
theorem dX9_init_44 : decode cX9_init 44 = .ok (.return_, 1) := by decide +kernel
theorem dX9_parsePosition_0 : decode cX9_parsePosition 0 = .ok (.aload_n 0, 1) := by decide +kernel
theorem dX9_parsePosition_1 : decode cX9_parsePosition 1 = .ok (.getfield 29, 3) := by decide +kernel
theorem dX9_parsePosition_4 : decode cX9_parsePosition 4 = .ok (.iload_n 1, 1) := by decide +kernel
theorem dX9_parsePosition_5 : decode cX9_parsePosition 5 = .ok (.invokevirtual 33, 3) := by decide +kernel
theorem dX9_parsePosition_8 : decode cX9_parsePosition 8 = .ok (.aload_n 0, 1) := by decide +kernel
theorem dX9_parsePosition_9 : decode cX9_parsePosition 9 = .ok (.getfield 12, 3) := by decide +kernel
theorem dX9_parsePosition_12 : decode cX9_parsePosition 12 = .ok (.invokevirtual 39, 3) := by decide +kernel
theorem dX9_parsePosition_15 : decode cX9_parsePosition 15 = .ok (.aload_n 0, 1) := by decide +kernel
theorem dX9_parsePosition_16 : decode cX9_parsePosition 16 = .ok (.iconst 0, 1) := by decide +kernel
theorem dX9_parsePosition_17 : decode cX9_parsePosition 17 = .ok (.invokevirtual 42, 3) := by decide +kernel
theorem dX9_parsePosition_20 : decode cX9_parsePosition 20 = .ok (.ifCond .eq 46, 3) := by decide +kernel
theorem dX9_parsePosition_23 : decode cX9_parsePosition 23 = .ok (.aload_n 0, 1) := by decide +kernel
theorem dX9_parsePosition_24 : decode cX9_parsePosition 24 = .ok (.getfield 29, 3) := by decide +kernel
theorem dX9_parsePosition_27 : decode cX9_parsePosition 27 = .ok (.bipush 59, 2) := by decide +kernel
theorem dX9_parsePosition_29 : decode cX9_parsePosition 29 = .ok (.invokevirtual 46, 3) := by decide +kernel
theorem dX9_parsePosition_32 : decode cX9_parsePosition 32 = .ok (.ifCond .eq 34, 3) := by decide +kernel
theorem dX9_parsePosition_35 : decode cX9_parsePosition 35 = .ok (.aload_n 0, 1) := by decide +kernel
theorem dX9_parsePosition_36 : decode cX9_parsePosition 36 = .ok (.iconst 1, 1) := by decide +kernel
theorem dX9_parsePosition_37 : decode cX9_parsePosition 37 = .ok (.invokevirtual 42, 3) := by decide +kernel
theorem dX9_parsePosition_40 : decode cX9_parsePosition 40 = .ok (.ifCond .eq 26, 3) := by decide +kernel
theorem dX9_parsePosition_43 : decode cX9_parsePosition 43 = .ok (.aload_n 0, 1) := by decide +kernel
theorem dX9_parsePosition_44 : decode cX9_parsePosition 44 = .ok (.getfield 29, 3) := by decide +kernel
theorem dX9_parsePosition_47 : decode cX9_parsePosition 47 = .ok (.bipush 59, 2) := by decide +kernel
theorem dX9_parsePosition_49 : decode cX9_parsePosition 49 = .ok (.invokevirtual 46, 3) := by decide +kernel
theorem dX9_parsePosition_52 : decode cX9_parsePosition 52 = .ok (.ifCond .eq 14, 3) := by decide +kernel
theorem dX9_parsePosition_55 : decode cX9_parsePosition 55 = .ok (.aload_n 0, 1) := by decide +kernel
theorem dX9_parsePosition_56 : decode cX9_parsePosition 56 = .ok (.invokevirtual 50, 3) := by decide +kernel
theorem dX9_parsePosition_59 : decode cX9_parsePosition 59 = .ok (.ifCond .eq 7, 3) := by decide +kernel
theorem dX9_parsePosition_62 : decode cX9_parsePosition 62 = .ok (.iconst 1, 1) := by decide +kernel
theorem dX9_parsePosition_63 : decode cX9_parsePosition 63 = .ok (.goto 4, 3) := by decide +kernel
theorem dX9_parsePosition_66 : decode cX9_parsePosition 66 = .ok (.iconst 0, 1) := by decide +kernel
theorem dX9_parsePosition_67 : decode cX9_parsePosition 67 = .ok (.ireturn, 1) := by decide +kernel
theorem dX9_readMen_0 : decode cX9_readMen 0 = .ok (.aload_n 0, 1) := by decide +kernel
theorem dX9_readMen_1 : decode cX9_readMen 1 = .ok (.getfield 29, 3) := by decide +kernel
theorem dX9_readMen_4 : decode cX9_readMen 4 = .ok (.bipush 59, 2) := by decide +kernel
theorem dX9_readMen_6 : decode cX9_readMen 6 = .ok (.invokevirtual 54, 3) := by decide +kernel
theorem dX9_readMen_9 : decode cX9_readMen 9 = .ok (.ifCond .eq 5, 3) := by decide +kernel
theorem dX9_readMen_12 : decode cX9_readMen 12 = .ok (.iconst 1, 1) := by decide +kernel
theorem dX9_readMen_13 : decode cX9_readMen 13 = .ok (.ireturn, 1) := by decide +kernel
theorem dX9_readMen_14 : decode cX9_readMen 14 = .ok (.iconst 0, 1) := by decide +kernel
theorem dX9_readMen_15 : decode cX9_readMen 15 = .ok (.istore_n 2, 1) := by decide +kernel
theorem dX9_readMen_16 : decode cX9_readMen 16 = .ok (.iload_n 2, 1) := by decide +kernel
theorem dX9_readMen_17 : decode cX9_readMen 17 = .ok (.sipush 400, 3) := by decide +kernel
theorem dX9_readMen_20 : decode cX9_readMen 20 = .ok (.if_icmp .ge 40, 3) := by decide +kernel
theorem dX9_readMen_23 : decode cX9_readMen 23 = .ok (.aload_n 0, 1) := by decide +kernel
theorem dX9_readMen_24 : decode cX9_readMen 24 = .ok (.iload_n 1, 1) := by decide +kernel
theorem dX9_readMen_25 : decode cX9_readMen 25 = .ok (.invokevirtual 57, 3) := by decide +kernel
theorem dX9_readMen_28 : decode cX9_readMen 28 = .ok (.ifCond .ne 5, 3) := by decide +kernel
theorem dX9_readMen_31 : decode cX9_readMen 31 = .ok (.iconst 0, 1) := by decide +kernel
theorem dX9_readMen_32 : decode cX9_readMen 32 = .ok (.ireturn, 1) := by decide +kernel
theorem dX9_readMen_33 : decode cX9_readMen 33 = .ok (.aload_n 0, 1) := by decide +kernel
theorem dX9_readMen_34 : decode cX9_readMen 34 = .ok (.getfield 29, 3) := by decide +kernel
theorem dX9_readMen_37 : decode cX9_readMen 37 = .ok (.bipush 44, 2) := by decide +kernel
theorem dX9_readMen_39 : decode cX9_readMen 39 = .ok (.invokevirtual 54, 3) := by decide +kernel
theorem dX9_readMen_42 : decode cX9_readMen 42 = .ok (.ifCond .ne 5, 3) := by decide +kernel
theorem dX9_readMen_45 : decode cX9_readMen 45 = .ok (.iconst 1, 1) := by decide +kernel
theorem dX9_readMen_46 : decode cX9_readMen 46 = .ok (.ireturn, 1) := by decide +kernel
theorem dX9_readMen_47 : decode cX9_readMen 47 = .ok (.aload_n 0, 1) := by decide +kernel
theorem dX9_readMen_48 : decode cX9_readMen 48 = .ok (.getfield 29, 3) := by decide +kernel
theorem dX9_readMen_51 : decode cX9_readMen 51 = .ok (.invokevirtual 60, 3) := by decide +kernel
theorem dX9_readMen_54 : decode cX9_readMen 54 = .ok (.iinc 2 1, 3) := by decide +kernel
theorem dX9_readMen_57 : decode cX9_readMen 57 = .ok (.goto (-41), 3) := by decide +kernel
theorem dX9_readMen_60 : decode cX9_readMen 60 = .ok (.iconst 1, 1) := by decide +kernel
theorem dX9_readMen_61 : decode cX9_readMen 61 = .ok (.ireturn, 1) := by decide +kernel
theorem dX9_readStack_0 : decode cX9_readStack 0 = .ok (.aload_n 0, 1) := by decide +kernel
theorem dX9_readStack_1 : decode cX9_readStack 1 = .ok (.getfield 29, 3) := by decide +kernel
theorem dX9_readStack_4 : decode cX9_readStack 4 = .ok (.iconst 1, 1) := by decide +kernel
theorem dX9_readStack_5 : decode cX9_readStack 5 = .ok (.bipush 25, 2) := by decide +kernel
theorem dX9_readStack_7 : decode cX9_readStack 7 = .ok (.invokevirtual 63, 3) := by decide +kernel
theorem dX9_readStack_10 : decode cX9_readStack 10 = .ok (.ifCond .ne 5, 3) := by decide +kernel
theorem dX9_readStack_13 : decode cX9_readStack 13 = .ok (.iconst 0, 1) := by decide +kernel
theorem dX9_readStack_14 : decode cX9_readStack 14 = .ok (.ireturn, 1) := by decide +kernel
theorem dX9_readStack_15 : decode cX9_readStack 15 = .ok (.aload_n 0, 1) := by decide +kernel
theorem dX9_readStack_16 : decode cX9_readStack 16 = .ok (.getfield 29, 3) := by decide +kernel
theorem dX9_readStack_19 : decode cX9_readStack 19 = .ok (.getfield 67, 3) := by decide +kernel
theorem dX9_readStack_22 : decode cX9_readStack 22 = .ok (.istore_n 2, 1) := by decide +kernel
theorem dX9_readStack_23 : decode cX9_readStack 23 = .ok (.aload_n 0, 1) := by decide +kernel
theorem dX9_readStack_24 : decode cX9_readStack 24 = .ok (.getfield 12, 3) := by decide +kernel
theorem dX9_readStack_27 : decode cX9_readStack 27 = .ok (.iload_n 1, 1) := by decide +kernel
theorem dX9_readStack_28 : decode cX9_readStack 28 = .ok (.iload_n 2, 1) := by decide +kernel
theorem dX9_readStack_29 : decode cX9_readStack 29 = .ok (.invokevirtual 71, 3) := by decide +kernel
theorem dX9_readStack_32 : decode cX9_readStack 32 = .ok (.ifCond .le 12, 3) := by decide +kernel
theorem dX9_readStack_35 : decode cX9_readStack 35 = .ok (.aload_n 0, 1) := by decide +kernel
theorem dX9_readStack_36 : decode cX9_readStack 36 = .ok (.getfield 29, 3) := by decide +kernel
theorem dX9_readStack_39 : decode cX9_readStack 39 = .ok (.iconst 3, 1) := by decide +kernel
theorem dX9_readStack_40 : decode cX9_readStack 40 = .ok (.invokevirtual 75, 3) := by decide +kernel
theorem dX9_readStack_43 : decode cX9_readStack 43 = .ok (.ireturn, 1) := by decide +kernel
theorem dX9_readStack_44 : decode cX9_readStack 44 = .ok (.iload_n 1, 1) := by decide +kernel
theorem dX9_readStack_45 : decode cX9_readStack 45 = .ok (.iconst 1, 1) := by decide +kernel
theorem dX9_readStack_46 : decode cX9_readStack 46 = .ok (.if_icmp .ne 33, 3) := by decide +kernel
theorem dX9_readStack_49 : decode cX9_readStack 49 = .ok (.iload_n 2, 1) := by decide +kernel
theorem dX9_readStack_50 : decode cX9_readStack 50 = .ok (.bipush 25, 2) := by decide +kernel
theorem dX9_readStack_52 : decode cX9_readStack 52 = .ok (.if_icmp .eq 27, 3) := by decide +kernel
theorem dX9_readStack_55 : decode cX9_readStack 55 = .ok (.aload_n 0, 1) := by decide +kernel
theorem dX9_readStack_56 : decode cX9_readStack 56 = .ok (.getfield 12, 3) := by decide +kernel
theorem dX9_readStack_59 : decode cX9_readStack 59 = .ok (.iconst 0, 1) := by decide +kernel
theorem dX9_readStack_60 : decode cX9_readStack 60 = .ok (.bipush 25, 2) := by decide +kernel
theorem dX9_readStack_62 : decode cX9_readStack 62 = .ok (.iload_n 2, 1) := by decide +kernel
theorem dX9_readStack_63 : decode cX9_readStack 63 = .ok (.isub, 1) := by decide +kernel
theorem dX9_readStack_64 : decode cX9_readStack 64 = .ok (.invokevirtual 71, 3) := by decide +kernel
theorem dX9_readStack_67 : decode cX9_readStack 67 = .ok (.ifCond .le 12, 3) := by decide +kernel
theorem dX9_readStack_70 : decode cX9_readStack 70 = .ok (.aload_n 0, 1) := by decide +kernel
theorem dX9_readStack_71 : decode cX9_readStack 71 = .ok (.getfield 29, 3) := by decide +kernel
theorem dX9_readStack_74 : decode cX9_readStack 74 = .ok (.iconst 5, 1) := by decide +kernel
theorem dX9_readStack_75 : decode cX9_readStack 75 = .ok (.invokevirtual 75, 3) := by decide +kernel
theorem dX9_readStack_78 : decode cX9_readStack 78 = .ok (.ireturn, 1) := by decide +kernel
theorem dX9_readStack_79 : decode cX9_readStack 79 = .ok (.aload_n 0, 1) := by decide +kernel
theorem dX9_readStack_80 : decode cX9_readStack 80 = .ok (.getfield 29, 3) := by decide +kernel
theorem dX9_readStack_83 : decode cX9_readStack 83 = .ok (.invokevirtual 60, 3) := by decide +kernel
theorem dX9_readStack_86 : decode cX9_readStack 86 = .ok (.aload_n 0, 1) := by decide +kernel
theorem dX9_readStack_87 : decode cX9_readStack 87 = .ok (.getfield 29, 3) := by decide +kernel
theorem dX9_readStack_90 : decode cX9_readStack 90 = .ok (.bipush 58, 2) := by decide +kernel
theorem dX9_readStack_92 : decode cX9_readStack 92 = .ok (.invokevirtual 46, 3) := by decide +kernel
theorem dX9_readStack_95 : decode cX9_readStack 95 = .ok (.ifCond .eq 16, 3) := by decide +kernel
theorem dX9_readStack_98 : decode cX9_readStack 98 = .ok (.aload_n 0, 1) := by decide +kernel
theorem dX9_readStack_99 : decode cX9_readStack 99 = .ok (.getfield 29, 3) := by decide +kernel
theorem dX9_readStack_102 : decode cX9_readStack 102 = .ok (.iconst 1, 1) := by decide +kernel
theorem dX9_readStack_103 : decode cX9_readStack 103 = .ok (.bipush 15, 2) := by decide +kernel
theorem dX9_readStack_105 : decode cX9_readStack 105 = .ok (.invokevirtual 63, 3) := by decide +kernel
theorem dX9_readStack_108 : decode cX9_readStack 108 = .ok (.ifCond .ne 5, 3) := by decide +kernel
theorem dX9_readStack_111 : decode cX9_readStack 111 = .ok (.iconst 0, 1) := by decide +kernel
theorem dX9_readStack_112 : decode cX9_readStack 112 = .ok (.ireturn, 1) := by decide +kernel
theorem dX9_readStack_113 : decode cX9_readStack 113 = .ok (.aload_n 0, 1) := by decide +kernel
theorem dX9_readStack_114 : decode cX9_readStack 114 = .ok (.getfield 29, 3) := by decide +kernel
theorem dX9_readStack_117 : decode cX9_readStack 117 = .ok (.getfield 67, 3) := by decide +kernel
theorem dX9_readStack_120 : decode cX9_readStack 120 = .ok (.aload_n 0, 1) := by decide +kernel
theorem dX9_readStack_121 : decode cX9_readStack 121 = .ok (.getfield 12, 3) := by decide +kernel
theorem dX9_readStack_124 : decode cX9_readStack 124 = .ok (.iload_n 1, 1) := by decide +kernel
theorem dX9_readStack_125 : decode cX9_readStack 125 = .ok (.iconst 0, 1) := by decide +kernel
theorem dX9_readStack_126 : decode cX9_readStack 126 = .ok (.invokevirtual 71, 3) := by decide +kernel
theorem dX9_readStack_129 : decode cX9_readStack 129 = .ok (.if_icmp .le 12, 3) := by decide +kernel
theorem dX9_readStack_132 : decode cX9_readStack 132 = .ok (.aload_n 0, 1) := by decide +kernel
theorem dX9_readStack_133 : decode cX9_readStack 133 = .ok (.getfield 29, 3) := by decide +kernel
theorem dX9_readStack_136 : decode cX9_readStack 136 = .ok (.iconst 4, 1) := by decide +kernel
theorem dX9_readStack_137 : decode cX9_readStack 137 = .ok (.invokevirtual 75, 3) := by decide +kernel
theorem dX9_readStack_140 : decode cX9_readStack 140 = .ok (.ireturn, 1) := by decide +kernel
theorem dX9_readStack_141 : decode cX9_readStack 141 = .ok (.aload_n 0, 1) := by decide +kernel
theorem dX9_readStack_142 : decode cX9_readStack 142 = .ok (.getfield 12, 3) := by decide +kernel
theorem dX9_readStack_145 : decode cX9_readStack 145 = .ok (.iload_n 1, 1) := by decide +kernel
theorem dX9_readStack_146 : decode cX9_readStack 146 = .ok (.iload_n 2, 1) := by decide +kernel
theorem dX9_readStack_147 : decode cX9_readStack 147 = .ok (.aload_n 0, 1) := by decide +kernel
theorem dX9_readStack_148 : decode cX9_readStack 148 = .ok (.getfield 29, 3) := by decide +kernel
theorem dX9_readStack_151 : decode cX9_readStack 151 = .ok (.getfield 67, 3) := by decide +kernel
theorem dX9_readStack_154 : decode cX9_readStack 154 = .ok (.invokevirtual 78, 3) := by decide +kernel
theorem dX9_readStack_157 : decode cX9_readStack 157 = .ok (.aload_n 0, 1) := by decide +kernel
theorem dX9_readStack_158 : decode cX9_readStack 158 = .ok (.getfield 29, 3) := by decide +kernel
theorem dX9_readStack_161 : decode cX9_readStack 161 = .ok (.invokevirtual 60, 3) := by decide +kernel
theorem dX9_readStack_164 : decode cX9_readStack 164 = .ok (.iconst 1, 1) := by decide +kernel
theorem dX9_readStack_165 : decode cX9_readStack 165 = .ok (.ireturn, 1) := by decide +kernel
theorem dX9_readTurn_0 : decode cX9_readTurn 0 = .ok (.aload_n 0, 1) := by decide +kernel
theorem dX9_readTurn_1 : decode cX9_readTurn 1 = .ok (.getfield 29, 3) := by decide +kernel
theorem dX9_readTurn_4 : decode cX9_readTurn 4 = .ok (.iconst 0, 1) := by decide +kernel
theorem dX9_readTurn_5 : decode cX9_readTurn 5 = .ok (.iconst 1, 1) := by decide +kernel
theorem dX9_readTurn_6 : decode cX9_readTurn 6 = .ok (.invokevirtual 63, 3) := by decide +kernel
theorem dX9_readTurn_9 : decode cX9_readTurn 9 = .ok (.ifCond .ne 5, 3) := by decide +kernel
theorem dX9_readTurn_12 : decode cX9_readTurn 12 = .ok (.iconst 0, 1) := by decide +kernel
theorem dX9_readTurn_13 : decode cX9_readTurn 13 = .ok (.ireturn, 1) := by decide +kernel
theorem dX9_readTurn_14 : decode cX9_readTurn 14 = .ok (.aload_n 0, 1) := by decide +kernel
theorem dX9_readTurn_15 : decode cX9_readTurn 15 = .ok (.getfield 12, 3) := by decide +kernel
theorem dX9_readTurn_18 : decode cX9_readTurn 18 = .ok (.iconst 0, 1) := by decide +kernel
theorem dX9_readTurn_19 : decode cX9_readTurn 19 = .ok (.invokevirtual 82, 3) := by decide +kernel
theorem dX9_readTurn_22 : decode cX9_readTurn 22 = .ok (.ifCond .eq 24, 3) := by decide +kernel
theorem dX9_readTurn_25 : decode cX9_readTurn 25 = .ok (.aload_n 0, 1) := by decide +kernel
theorem dX9_readTurn_26 : decode cX9_readTurn 26 = .ok (.getfield 12, 3) := by decide +kernel
theorem dX9_readTurn_29 : decode cX9_readTurn 29 = .ok (.iconst 1, 1) := by decide +kernel
theorem dX9_readTurn_30 : decode cX9_readTurn 30 = .ok (.invokevirtual 82, 3) := by decide +kernel
theorem dX9_readTurn_33 : decode cX9_readTurn 33 = .ok (.ifCond .eq 13, 3) := by decide +kernel
theorem dX9_readTurn_36 : decode cX9_readTurn 36 = .ok (.aload_n 0, 1) := by decide +kernel
theorem dX9_readTurn_37 : decode cX9_readTurn 37 = .ok (.getfield 29, 3) := by decide +kernel
theorem dX9_readTurn_40 : decode cX9_readTurn 40 = .ok (.bipush 6, 2) := by decide +kernel
theorem dX9_readTurn_42 : decode cX9_readTurn 42 = .ok (.invokevirtual 75, 3) := by decide +kernel
theorem dX9_readTurn_45 : decode cX9_readTurn 45 = .ok (.ireturn, 1) := by decide +kernel
theorem dX9_readTurn_46 : decode cX9_readTurn 46 = .ok (.aload_n 0, 1) := by decide +kernel
theorem dX9_readTurn_47 : decode cX9_readTurn 47 = .ok (.getfield 12, 3) := by decide +kernel
theorem dX9_readTurn_50 : decode cX9_readTurn 50 = .ok (.aload_n 0, 1) := by decide +kernel
theorem dX9_readTurn_51 : decode cX9_readTurn 51 = .ok (.getfield 29, 3) := by decide +kernel
theorem dX9_readTurn_54 : decode cX9_readTurn 54 = .ok (.getfield 67, 3) := by decide +kernel
theorem dX9_readTurn_57 : decode cX9_readTurn 57 = .ok (.putfield 85, 3) := by decide +kernel
theorem dX9_readTurn_60 : decode cX9_readTurn 60 = .ok (.aload_n 0, 1) := by decide +kernel
theorem dX9_readTurn_61 : decode cX9_readTurn 61 = .ok (.getfield 29, 3) := by decide +kernel
theorem dX9_readTurn_64 : decode cX9_readTurn 64 = .ok (.invokevirtual 60, 3) := by decide +kernel
theorem dX9_readTurn_67 : decode cX9_readTurn 67 = .ok (.aload_n 0, 1) := by decide +kernel
theorem dX9_readTurn_68 : decode cX9_readTurn 68 = .ok (.getfield 29, 3) := by decide +kernel
theorem dX9_readTurn_71 : decode cX9_readTurn 71 = .ok (.getfield 88, 3) := by decide +kernel
theorem dX9_readTurn_74 : decode cX9_readTurn 74 = .ok (.ifCond .eq 14, 3) := by decide +kernel
theorem dX9_readTurn_77 : decode cX9_readTurn 77 = .ok (.aload_n 0, 1) := by decide +kernel
theorem dX9_readTurn_78 : decode cX9_readTurn 78 = .ok (.getfield 29, 3) := by decide +kernel
theorem dX9_readTurn_81 : decode cX9_readTurn 81 = .ok (.iconst 1, 1) := by decide +kernel
theorem dX9_readTurn_82 : decode cX9_readTurn 82 = .ok (.invokevirtual 75, 3) := by decide +kernel
theorem dX9_readTurn_85 : decode cX9_readTurn 85 = .ok (.ifCond .eq 7, 3) := by decide +kernel
theorem dX9_readTurn_88 : decode cX9_readTurn 88 = .ok (.iconst 1, 1) := by decide +kernel
theorem dX9_readTurn_89 : decode cX9_readTurn 89 = .ok (.goto 4, 3) := by decide +kernel
theorem dX9_readTurn_92 : decode cX9_readTurn 92 = .ok (.iconst 0, 1) := by decide +kernel
theorem dX9_readTurn_93 : decode cX9_readTurn 93 = .ok (.ireturn, 1) := by decide +kernel
theorem dX9_parseMoves_0 : decode cX9_parseMoves 0 = .ok (.aload_n 0, 1) := by decide +kernel
theorem dX9_parseMoves_1 : decode cX9_parseMoves 1 = .ok (.getfield 29, 3) := by decide +kernel
theorem dX9_parseMoves_4 : decode cX9_parseMoves 4 = .ok (.iload_n 1, 1) := by decide +kernel
theorem dX9_parseMoves_5 : decode cX9_parseMoves 5 = .ok (.invokevirtual 33, 3) := by decide +kernel
theorem dX9_parseMoves_8 : decode cX9_parseMoves 8 = .ok (.aload_n 0, 1) := by decide +kernel
theorem dX9_parseMoves_9 : decode cX9_parseMoves 9 = .ok (.iconst 0, 1) := by decide +kernel
theorem dX9_parseMoves_10 : decode cX9_parseMoves 10 = .ok (.putfield 91, 3) := by decide +kernel
theorem dX9_parseMoves_13 : decode cX9_parseMoves 13 = .ok (.iconst 0, 1) := by decide +kernel
theorem dX9_parseMoves_14 : decode cX9_parseMoves 14 = .ok (.istore_n 2, 1) := by decide +kernel
theorem dX9_parseMoves_15 : decode cX9_parseMoves 15 = .ok (.iload_n 2, 1) := by decide +kernel
theorem dX9_parseMoves_16 : decode cX9_parseMoves 16 = .ok (.bipush 8, 2) := by decide +kernel
theorem dX9_parseMoves_18 : decode cX9_parseMoves 18 = .ok (.if_icmp .gt 30, 3) := by decide +kernel
theorem dX9_parseMoves_21 : decode cX9_parseMoves 21 = .ok (.aload_n 0, 1) := by decide +kernel
theorem dX9_parseMoves_22 : decode cX9_parseMoves 22 = .ok (.invokevirtual 93, 3) := by decide +kernel
theorem dX9_parseMoves_25 : decode cX9_parseMoves 25 = .ok (.ifCond .ne 5, 3) := by decide +kernel
theorem dX9_parseMoves_28 : decode cX9_parseMoves 28 = .ok (.iconst 0, 1) := by decide +kernel
theorem dX9_parseMoves_29 : decode cX9_parseMoves 29 = .ok (.ireturn, 1) := by decide +kernel
theorem dX9_parseMoves_30 : decode cX9_parseMoves 30 = .ok (.aload_n 0, 1) := by decide +kernel
theorem dX9_parseMoves_31 : decode cX9_parseMoves 31 = .ok (.getfield 29, 3) := by decide +kernel
theorem dX9_parseMoves_34 : decode cX9_parseMoves 34 = .ok (.getfield 88, 3) := by decide +kernel
theorem dX9_parseMoves_37 : decode cX9_parseMoves 37 = .ok (.ifCond .ne 5, 3) := by decide +kernel
theorem dX9_parseMoves_40 : decode cX9_parseMoves 40 = .ok (.iconst 1, 1) := by decide +kernel
theorem dX9_parseMoves_41 : decode cX9_parseMoves 41 = .ok (.ireturn, 1) := by decide +kernel
theorem dX9_parseMoves_42 : decode cX9_parseMoves 42 = .ok (.iinc 2 1, 3) := by decide +kernel
theorem dX9_parseMoves_45 : decode cX9_parseMoves 45 = .ok (.goto (-30), 3) := by decide +kernel
theorem dX9_parseMoves_48 : decode cX9_parseMoves 48 = .ok (.iconst 0, 1) := by decide +kernel
theorem dX9_parseMoves_49 : decode cX9_parseMoves 49 = .ok (.ireturn, 1) := by decide +kernel
theorem dX9_readMove_0 : decode cX9_readMove 0 = .ok (.aload_n 0, 1) := by decide +kernel
theorem dX9_readMove_1 : decode cX9_readMove 1 = .ok (.getfield 91, 3) := by decide +kernel
theorem dX9_readMove_4 : decode cX9_readMove 4 = .ok (.istore_n 1, 1) := by decide +kernel
theorem dX9_readMove_5 : decode cX9_readMove 5 = .ok (.aload_n 0, 1) := by decide +kernel
theorem dX9_readMove_6 : decode cX9_readMove 6 = .ok (.bipush 98, 2) := by decide +kernel
theorem dX9_readMove_8 : decode cX9_readMove 8 = .ok (.bipush 97, 2) := by decide +kernel
theorem dX9_readMove_10 : decode cX9_readMove 10 = .ok (.bipush 114, 2) := by decide +kernel
theorem dX9_readMove_12 : decode cX9_readMove 12 = .ok (.bipush 25, 2) := by decide +kernel
theorem dX9_readMove_14 : decode cX9_readMove 14 = .ok (.invokevirtual 96, 3) := by decide +kernel
theorem dX9_readMove_17 : decode cX9_readMove 17 = .ok (.istore_n 2, 1) := by decide +kernel
theorem dX9_readMove_18 : decode cX9_readMove 18 = .ok (.iload_n 2, 1) := by decide +kernel
theorem dX9_readMove_19 : decode cX9_readMove 19 = .ok (.iconst (-1), 1) := by decide +kernel
theorem dX9_readMove_20 : decode cX9_readMove 20 = .ok (.if_icmp .ne 5, 3) := by decide +kernel
theorem dX9_readMove_23 : decode cX9_readMove 23 = .ok (.iconst 0, 1) := by decide +kernel
theorem dX9_readMove_24 : decode cX9_readMove 24 = .ok (.ireturn, 1) := by decide +kernel
theorem dX9_readMove_25 : decode cX9_readMove 25 = .ok (.aload_n 0, 1) := by decide +kernel
theorem dX9_readMove_26 : decode cX9_readMove 26 = .ok (.getfield 29, 3) := by decide +kernel
theorem dX9_readMove_29 : decode cX9_readMove 29 = .ok (.invokevirtual 60, 3) := by decide +kernel
theorem dX9_readMove_32 : decode cX9_readMove 32 = .ok (.iconst 0, 1) := by decide +kernel
theorem dX9_readMove_33 : decode cX9_readMove 33 = .ok (.istore_n 3, 1) := by decide +kernel
theorem dX9_readMove_34 : decode cX9_readMove 34 = .ok (.iload_n 3, 1) := by decide +kernel
theorem dX9_readMove_35 : decode cX9_readMove 35 = .ok (.bipush 8, 2) := by decide +kernel
theorem dX9_readMove_37 : decode cX9_readMove 37 = .ok (.if_icmp .gt 60, 3) := by decide +kernel
theorem dX9_readMove_40 : decode cX9_readMove 40 = .ok (.aload_n 0, 1) := by decide +kernel
theorem dX9_readMove_41 : decode cX9_readMove 41 = .ok (.iload_n 2, 1) := by decide +kernel
theorem dX9_readMove_42 : decode cX9_readMove 42 = .ok (.invokevirtual 100, 3) := by decide +kernel
theorem dX9_readMove_45 : decode cX9_readMove 45 = .ok (.istore_n 2, 1) := by decide +kernel
theorem dX9_readMove_46 : decode cX9_readMove 46 = .ok (.iload_n 2, 1) := by decide +kernel
theorem dX9_readMove_47 : decode cX9_readMove 47 = .ok (.iconst (-1), 1) := by decide +kernel
theorem dX9_readMove_48 : decode cX9_readMove 48 = .ok (.if_icmp .ne 5, 3) := by decide +kernel
theorem dX9_readMove_51 : decode cX9_readMove 51 = .ok (.iconst 0, 1) := by decide +kernel
theorem dX9_readMove_52 : decode cX9_readMove 52 = .ok (.ireturn, 1) := by decide +kernel
theorem dX9_readMove_53 : decode cX9_readMove 53 = .ok (.aload_n 0, 1) := by decide +kernel
theorem dX9_readMove_54 : decode cX9_readMove 54 = .ok (.getfield 29, 3) := by decide +kernel
theorem dX9_readMove_57 : decode cX9_readMove 57 = .ok (.bipush 47, 2) := by decide +kernel
theorem dX9_readMove_59 : decode cX9_readMove 59 = .ok (.invokevirtual 54, 3) := by decide +kernel
theorem dX9_readMove_62 : decode cX9_readMove 62 = .ok (.ifCond .ne 29, 3) := by decide +kernel
theorem dX9_readMove_65 : decode cX9_readMove 65 = .ok (.aload_n 0, 1) := by decide +kernel
theorem dX9_readMove_66 : decode cX9_readMove 66 = .ok (.getfield 29, 3) := by decide +kernel
theorem dX9_readMove_69 : decode cX9_readMove 69 = .ok (.bipush 40, 2) := by decide +kernel
theorem dX9_readMove_71 : decode cX9_readMove 71 = .ok (.invokevirtual 54, 3) := by decide +kernel
theorem dX9_readMove_74 : decode cX9_readMove 74 = .ok (.ifCond .eq 11, 3) := by decide +kernel
theorem dX9_readMove_77 : decode cX9_readMove 77 = .ok (.aload_n 0, 1) := by decide +kernel
theorem dX9_readMove_78 : decode cX9_readMove 78 = .ok (.iload_n 1, 1) := by decide +kernel
theorem dX9_readMove_79 : decode cX9_readMove 79 = .ok (.invokevirtual 104, 3) := by decide +kernel
theorem dX9_readMove_82 : decode cX9_readMove 82 = .ok (.ifCond .eq 7, 3) := by decide +kernel
theorem dX9_readMove_85 : decode cX9_readMove 85 = .ok (.iconst 1, 1) := by decide +kernel
theorem dX9_readMove_86 : decode cX9_readMove 86 = .ok (.goto 4, 3) := by decide +kernel
theorem dX9_readMove_89 : decode cX9_readMove 89 = .ok (.iconst 0, 1) := by decide +kernel
theorem dX9_readMove_90 : decode cX9_readMove 90 = .ok (.ireturn, 1) := by decide +kernel
theorem dX9_readMove_91 : decode cX9_readMove 91 = .ok (.iinc 3 1, 3) := by decide +kernel
theorem dX9_readMove_94 : decode cX9_readMove 94 = .ok (.goto (-60), 3) := by decide +kernel
theorem dX9_readMove_97 : decode cX9_readMove 97 = .ok (.iconst 0, 1) := by decide +kernel
theorem dX9_readMove_98 : decode cX9_readMove 98 = .ok (.ireturn, 1) := by decide +kernel
theorem dX9_readPoint_0 : decode cX9_readPoint 0 = .ok (.aload_n 0, 1) := by decide +kernel
theorem dX9_readPoint_1 : decode cX9_readPoint 1 = .ok (.getfield 29, 3) := by decide +kernel
theorem dX9_readPoint_4 : decode cX9_readPoint 4 = .ok (.iload_n 1, 1) := by decide +kernel
theorem dX9_readPoint_5 : decode cX9_readPoint 5 = .ok (.iload_n 2, 1) := by decide +kernel
theorem dX9_readPoint_6 : decode cX9_readPoint 6 = .ok (.iload_n 3, 1) := by decide +kernel
theorem dX9_readPoint_7 : decode cX9_readPoint 7 = .ok (.invokevirtual 107, 3) := by decide +kernel
theorem dX9_readPoint_10 : decode cX9_readPoint 10 = .ok (.ifCond .eq 6, 3) := by decide +kernel
theorem dX9_readPoint_13 : decode cX9_readPoint 13 = .ok (.iload 4, 2) := by decide +kernel
theorem dX9_readPoint_15 : decode cX9_readPoint 15 = .ok (.ireturn, 1) := by decide +kernel
theorem dX9_readPoint_16 : decode cX9_readPoint 16 = .ok (.aload_n 0, 1) := by decide +kernel
theorem dX9_readPoint_17 : decode cX9_readPoint 17 = .ok (.getfield 29, 3) := by decide +kernel
theorem dX9_readPoint_20 : decode cX9_readPoint 20 = .ok (.iconst 1, 1) := by decide +kernel
theorem dX9_readPoint_21 : decode cX9_readPoint 21 = .ok (.bipush 24, 2) := by decide +kernel
theorem dX9_readPoint_23 : decode cX9_readPoint 23 = .ok (.invokevirtual 63, 3) := by decide +kernel
theorem dX9_readPoint_26 : decode cX9_readPoint 26 = .ok (.ifCond .eq 13, 3) := by decide +kernel
theorem dX9_readPoint_29 : decode cX9_readPoint 29 = .ok (.aload_n 0, 1) := by decide +kernel
theorem dX9_readPoint_30 : decode cX9_readPoint 30 = .ok (.getfield 29, 3) := by decide +kernel
theorem dX9_readPoint_33 : decode cX9_readPoint 33 = .ok (.getfield 67, 3) := by decide +kernel
theorem dX9_readPoint_36 : decode cX9_readPoint 36 = .ok (.goto 4, 3) := by decide +kernel
theorem dX9_readPoint_39 : decode cX9_readPoint 39 = .ok (.iconst (-1), 1) := by decide +kernel
theorem dX9_readPoint_40 : decode cX9_readPoint 40 = .ok (.ireturn, 1) := by decide +kernel
theorem dX9_readStep_0 : decode cX9_readStep 0 = .ok (.aload_n 0, 1) := by decide +kernel
theorem dX9_readStep_1 : decode cX9_readStep 1 = .ok (.getfield 29, 3) := by decide +kernel
theorem dX9_readStep_4 : decode cX9_readStep 4 = .ok (.bipush 47, 2) := by decide +kernel
theorem dX9_readStep_6 : decode cX9_readStep 6 = .ok (.invokevirtual 46, 3) := by decide +kernel
theorem dX9_readStep_9 : decode cX9_readStep 9 = .ok (.ifCond .ne 5, 3) := by decide +kernel
theorem dX9_readStep_12 : decode cX9_readStep 12 = .ok (.iconst (-1), 1) := by decide +kernel
theorem dX9_readStep_13 : decode cX9_readStep 13 = .ok (.ireturn, 1) := by decide +kernel
theorem dX9_readStep_14 : decode cX9_readStep 14 = .ok (.aload_n 0, 1) := by decide +kernel
theorem dX9_readStep_15 : decode cX9_readStep 15 = .ok (.bipush 111, 2) := by decide +kernel
theorem dX9_readStep_17 : decode cX9_readStep 17 = .ok (.bipush 102, 2) := by decide +kernel
theorem dX9_readStep_19 : decode cX9_readStep 19 = .ok (.bipush 102, 2) := by decide +kernel
theorem dX9_readStep_21 : decode cX9_readStep 21 = .ok (.iconst 0, 1) := by decide +kernel
theorem dX9_readStep_22 : decode cX9_readStep 22 = .ok (.invokevirtual 96, 3) := by decide +kernel
theorem dX9_readStep_25 : decode cX9_readStep 25 = .ok (.istore_n 2, 1) := by decide +kernel
theorem dX9_readStep_26 : decode cX9_readStep 26 = .ok (.iload_n 2, 1) := by decide +kernel
theorem dX9_readStep_27 : decode cX9_readStep 27 = .ok (.iconst (-1), 1) := by decide +kernel
theorem dX9_readStep_28 : decode cX9_readStep 28 = .ok (.if_icmp .ne 5, 3) := by decide +kernel
theorem dX9_readStep_31 : decode cX9_readStep 31 = .ok (.iconst (-1), 1) := by decide +kernel
theorem dX9_readStep_32 : decode cX9_readStep 32 = .ok (.ireturn, 1) := by decide +kernel
theorem dX9_readStep_33 : decode cX9_readStep 33 = .ok (.aload_n 0, 1) := by decide +kernel
theorem dX9_readStep_34 : decode cX9_readStep 34 = .ok (.getfield 91, 3) := by decide +kernel
theorem dX9_readStep_37 : decode cX9_readStep 37 = .ok (.bipush 8, 2) := by decide +kernel
theorem dX9_readStep_39 : decode cX9_readStep 39 = .ok (.if_icmp .lt 15, 3) := by decide +kernel
theorem dX9_readStep_42 : decode cX9_readStep 42 = .ok (.aload_n 0, 1) := by decide +kernel
theorem dX9_readStep_43 : decode cX9_readStep 43 = .ok (.getfield 29, 3) := by decide +kernel
theorem dX9_readStep_46 : decode cX9_readStep 46 = .ok (.bipush 7, 2) := by decide +kernel
theorem dX9_readStep_48 : decode cX9_readStep 48 = .ok (.invokevirtual 75, 3) := by decide +kernel
theorem dX9_readStep_51 : decode cX9_readStep 51 = .ok (.pop, 1) := by decide +kernel
theorem dX9_readStep_52 : decode cX9_readStep 52 = .ok (.iconst (-1), 1) := by decide +kernel
theorem dX9_readStep_53 : decode cX9_readStep 53 = .ok (.ireturn, 1) := by decide +kernel
theorem dX9_readStep_54 : decode cX9_readStep 54 = .ok (.aload_n 0, 1) := by decide +kernel
theorem dX9_readStep_55 : decode cX9_readStep 55 = .ok (.getfield 29, 3) := by decide +kernel
theorem dX9_readStep_58 : decode cX9_readStep 58 = .ok (.invokevirtual 60, 3) := by decide +kernel
theorem dX9_readStep_61 : decode cX9_readStep 61 = .ok (.aload_n 0, 1) := by decide +kernel
theorem dX9_readStep_62 : decode cX9_readStep 62 = .ok (.getfield 29, 3) := by decide +kernel
theorem dX9_readStep_65 : decode cX9_readStep 65 = .ok (.bipush 42, 2) := by decide +kernel
theorem dX9_readStep_67 : decode cX9_readStep 67 = .ok (.invokevirtual 54, 3) := by decide +kernel
theorem dX9_readStep_70 : decode cX9_readStep 70 = .ok (.istore_n 3, 1) := by decide +kernel
theorem dX9_readStep_71 : decode cX9_readStep 71 = .ok (.iload_n 3, 1) := by decide +kernel
theorem dX9_readStep_72 : decode cX9_readStep 72 = .ok (.ifCond .eq 10, 3) := by decide +kernel
theorem dX9_readStep_75 : decode cX9_readStep 75 = .ok (.aload_n 0, 1) := by decide +kernel
theorem dX9_readStep_76 : decode cX9_readStep 76 = .ok (.getfield 29, 3) := by decide +kernel
theorem dX9_readStep_79 : decode cX9_readStep 79 = .ok (.invokevirtual 60, 3) := by decide +kernel
theorem dX9_readStep_82 : decode cX9_readStep 82 = .ok (.aload_n 0, 1) := by decide +kernel
theorem dX9_readStep_83 : decode cX9_readStep 83 = .ok (.iload_n 1, 1) := by decide +kernel
theorem dX9_readStep_84 : decode cX9_readStep 84 = .ok (.iload_n 2, 1) := by decide +kernel
theorem dX9_readStep_85 : decode cX9_readStep 85 = .ok (.iload_n 3, 1) := by decide +kernel
theorem dX9_readStep_86 : decode cX9_readStep 86 = .ok (.invokevirtual 111, 3) := by decide +kernel
theorem dX9_readStep_89 : decode cX9_readStep 89 = .ok (.iload_n 2, 1) := by decide +kernel
theorem dX9_readStep_90 : decode cX9_readStep 90 = .ok (.ireturn, 1) := by decide +kernel
theorem dX9_readTimes_0 : decode cX9_readTimes 0 = .ok (.aload_n 0, 1) := by decide +kernel
theorem dX9_readTimes_1 : decode cX9_readTimes 1 = .ok (.getfield 29, 3) := by decide +kernel
theorem dX9_readTimes_4 : decode cX9_readTimes 4 = .ok (.invokevirtual 60, 3) := by decide +kernel
theorem dX9_readTimes_7 : decode cX9_readTimes 7 = .ok (.aload_n 0, 1) := by decide +kernel
theorem dX9_readTimes_8 : decode cX9_readTimes 8 = .ok (.getfield 29, 3) := by decide +kernel
theorem dX9_readTimes_11 : decode cX9_readTimes 11 = .ok (.iconst 2, 1) := by decide +kernel
theorem dX9_readTimes_12 : decode cX9_readTimes 12 = .ok (.iconst 4, 1) := by decide +kernel
theorem dX9_readTimes_13 : decode cX9_readTimes 13 = .ok (.invokevirtual 63, 3) := by decide +kernel
theorem dX9_readTimes_16 : decode cX9_readTimes 16 = .ok (.ifCond .ne 5, 3) := by decide +kernel
theorem dX9_readTimes_19 : decode cX9_readTimes 19 = .ok (.iconst 0, 1) := by decide +kernel
theorem dX9_readTimes_20 : decode cX9_readTimes 20 = .ok (.ireturn, 1) := by decide +kernel
theorem dX9_readTimes_21 : decode cX9_readTimes 21 = .ok (.aload_n 0, 1) := by decide +kernel
theorem dX9_readTimes_22 : decode cX9_readTimes 22 = .ok (.getfield 91, 3) := by decide +kernel
theorem dX9_readTimes_25 : decode cX9_readTimes 25 = .ok (.istore_n 2, 1) := by decide +kernel
theorem dX9_readTimes_26 : decode cX9_readTimes 26 = .ok (.iload_n 2, 1) := by decide +kernel
theorem dX9_readTimes_27 : decode cX9_readTimes 27 = .ok (.iload_n 2, 1) := by decide +kernel
theorem dX9_readTimes_28 : decode cX9_readTimes 28 = .ok (.iload_n 1, 1) := by decide +kernel
theorem dX9_readTimes_29 : decode cX9_readTimes 29 = .ok (.isub, 1) := by decide +kernel
theorem dX9_readTimes_30 : decode cX9_readTimes 30 = .ok (.aload_n 0, 1) := by decide +kernel
theorem dX9_readTimes_31 : decode cX9_readTimes 31 = .ok (.getfield 29, 3) := by decide +kernel
theorem dX9_readTimes_34 : decode cX9_readTimes 34 = .ok (.getfield 67, 3) := by decide +kernel
theorem dX9_readTimes_37 : decode cX9_readTimes 37 = .ok (.iconst 1, 1) := by decide +kernel
theorem dX9_readTimes_38 : decode cX9_readTimes 38 = .ok (.isub, 1) := by decide +kernel
theorem dX9_readTimes_39 : decode cX9_readTimes 39 = .ok (.imul, 1) := by decide +kernel
theorem dX9_readTimes_40 : decode cX9_readTimes 40 = .ok (.iadd, 1) := by decide +kernel
theorem dX9_readTimes_41 : decode cX9_readTimes 41 = .ok (.bipush 8, 2) := by decide +kernel
theorem dX9_readTimes_43 : decode cX9_readTimes 43 = .ok (.if_icmp .le 13, 3) := by decide +kernel
theorem dX9_readTimes_46 : decode cX9_readTimes 46 = .ok (.aload_n 0, 1) := by decide +kernel
theorem dX9_readTimes_47 : decode cX9_readTimes 47 = .ok (.getfield 29, 3) := by decide +kernel
theorem dX9_readTimes_50 : decode cX9_readTimes 50 = .ok (.bipush 7, 2) := by decide +kernel
theorem dX9_readTimes_52 : decode cX9_readTimes 52 = .ok (.invokevirtual 75, 3) := by decide +kernel
theorem dX9_readTimes_55 : decode cX9_readTimes 55 = .ok (.ireturn, 1) := by decide +kernel
theorem dX9_readTimes_56 : decode cX9_readTimes 56 = .ok (.iconst 1, 1) := by decide +kernel
theorem dX9_readTimes_57 : decode cX9_readTimes 57 = .ok (.istore_n 3, 1) := by decide +kernel
theorem dX9_readTimes_58 : decode cX9_readTimes 58 = .ok (.iload_n 3, 1) := by decide +kernel
theorem dX9_readTimes_59 : decode cX9_readTimes 59 = .ok (.aload_n 0, 1) := by decide +kernel
theorem dX9_readTimes_60 : decode cX9_readTimes 60 = .ok (.getfield 29, 3) := by decide +kernel
theorem dX9_readTimes_63 : decode cX9_readTimes 63 = .ok (.getfield 67, 3) := by decide +kernel
theorem dX9_readTimes_66 : decode cX9_readTimes 66 = .ok (.if_icmp .ge 43, 3) := by decide +kernel
theorem dX9_readTimes_69 : decode cX9_readTimes 69 = .ok (.iload_n 1, 1) := by decide +kernel
theorem dX9_readTimes_70 : decode cX9_readTimes 70 = .ok (.istore 4, 2) := by decide +kernel
theorem dX9_readTimes_72 : decode cX9_readTimes 72 = .ok (.iload 4, 2) := by decide +kernel
theorem dX9_readTimes_74 : decode cX9_readTimes 74 = .ok (.iload_n 2, 1) := by decide +kernel
theorem dX9_readTimes_75 : decode cX9_readTimes 75 = .ok (.if_icmp .ge 28, 3) := by decide +kernel
theorem dX9_readTimes_78 : decode cX9_readTimes 78 = .ok (.aload_n 0, 1) := by decide +kernel
theorem dX9_readTimes_79 : decode cX9_readTimes 79 = .ok (.aload_n 0, 1) := by decide +kernel
theorem dX9_readTimes_80 : decode cX9_readTimes 80 = .ok (.getfield 18, 3) := by decide +kernel
theorem dX9_readTimes_83 : decode cX9_readTimes 83 = .ok (.iload 4, 2) := by decide +kernel
theorem dX9_readTimes_85 : decode cX9_readTimes 85 = .ok (.iaload, 1) := by decide +kernel
theorem dX9_readTimes_86 : decode cX9_readTimes 86 = .ok (.aload_n 0, 1) := by decide +kernel
theorem dX9_readTimes_87 : decode cX9_readTimes 87 = .ok (.getfield 22, 3) := by decide +kernel
theorem dX9_readTimes_90 : decode cX9_readTimes 90 = .ok (.iload 4, 2) := by decide +kernel
theorem dX9_readTimes_92 : decode cX9_readTimes 92 = .ok (.iaload, 1) := by decide +kernel
theorem dX9_readTimes_93 : decode cX9_readTimes 93 = .ok (.iconst 0, 1) := by decide +kernel
theorem dX9_readTimes_94 : decode cX9_readTimes 94 = .ok (.invokevirtual 111, 3) := by decide +kernel
theorem dX9_readTimes_97 : decode cX9_readTimes 97 = .ok (.iinc 4 1, 3) := by decide +kernel
theorem dX9_readTimes_100 : decode cX9_readTimes 100 = .ok (.goto (-28), 3) := by decide +kernel
theorem dX9_readTimes_103 : decode cX9_readTimes 103 = .ok (.iinc 3 1, 3) := by decide +kernel
theorem dX9_readTimes_106 : decode cX9_readTimes 106 = .ok (.goto (-48), 3) := by decide +kernel
theorem dX9_readTimes_109 : decode cX9_readTimes 109 = .ok (.aload_n 0, 1) := by decide +kernel
theorem dX9_readTimes_110 : decode cX9_readTimes 110 = .ok (.getfield 29, 3) := by decide +kernel
theorem dX9_readTimes_113 : decode cX9_readTimes 113 = .ok (.invokevirtual 60, 3) := by decide +kernel
theorem dX9_readTimes_116 : decode cX9_readTimes 116 = .ok (.aload_n 0, 1) := by decide +kernel
theorem dX9_readTimes_117 : decode cX9_readTimes 117 = .ok (.getfield 29, 3) := by decide +kernel
theorem dX9_readTimes_120 : decode cX9_readTimes 120 = .ok (.bipush 41, 2) := by decide +kernel
theorem dX9_readTimes_122 : decode cX9_readTimes 122 = .ok (.invokevirtual 46, 3) := by decide +kernel
theorem dX9_readTimes_125 : decode cX9_readTimes 125 = .ok (.ireturn, 1) := by decide +kernel
theorem dX9_addMove_0 : decode cX9_addMove 0 = .ok (.aload_n 0, 1) := by decide +kernel
theorem dX9_addMove_1 : decode cX9_addMove 1 = .ok (.getfield 91, 3) := by decide +kernel
theorem dX9_addMove_4 : decode cX9_addMove 4 = .ok (.bipush 8, 2) := by decide +kernel
theorem dX9_addMove_6 : decode cX9_addMove 6 = .ok (.if_icmp .ge 43, 3) := by decide +kernel
theorem dX9_addMove_9 : decode cX9_addMove 9 = .ok (.aload_n 0, 1) := by decide +kernel
theorem dX9_addMove_10 : decode cX9_addMove 10 = .ok (.getfield 18, 3) := by decide +kernel
theorem dX9_addMove_13 : decode cX9_addMove 13 = .ok (.aload_n 0, 1) := by decide +kernel
theorem dX9_addMove_14 : decode cX9_addMove 14 = .ok (.getfield 91, 3) := by decide +kernel
theorem dX9_addMove_17 : decode cX9_addMove 17 = .ok (.iload_n 1, 1) := by decide +kernel
theorem dX9_addMove_18 : decode cX9_addMove 18 = .ok (.iastore, 1) := by decide +kernel
theorem dX9_addMove_19 : decode cX9_addMove 19 = .ok (.aload_n 0, 1) := by decide +kernel
theorem dX9_addMove_20 : decode cX9_addMove 20 = .ok (.getfield 22, 3) := by decide +kernel
theorem dX9_addMove_23 : decode cX9_addMove 23 = .ok (.aload_n 0, 1) := by decide +kernel
theorem dX9_addMove_24 : decode cX9_addMove 24 = .ok (.getfield 91, 3) := by decide +kernel
theorem dX9_addMove_27 : decode cX9_addMove 27 = .ok (.iload_n 2, 1) := by decide +kernel
theorem dX9_addMove_28 : decode cX9_addMove 28 = .ok (.iastore, 1) := by decide +kernel
theorem dX9_addMove_29 : decode cX9_addMove 29 = .ok (.aload_n 0, 1) := by decide +kernel
theorem dX9_addMove_30 : decode cX9_addMove 30 = .ok (.getfield 25, 3) := by decide +kernel
theorem dX9_addMove_33 : decode cX9_addMove 33 = .ok (.aload_n 0, 1) := by decide +kernel
theorem dX9_addMove_34 : decode cX9_addMove 34 = .ok (.getfield 91, 3) := by decide +kernel
theorem dX9_addMove_37 : decode cX9_addMove 37 = .ok (.iload_n 3, 1) := by decide +kernel
theorem dX9_addMove_38 : decode cX9_addMove 38 = .ok (.bastore, 1) := by decide +kernel
theorem dX9_addMove_39 : decode cX9_addMove 39 = .ok (.aload_n 0, 1) := by decide +kernel
theorem dX9_addMove_40 : decode cX9_addMove 40 = .ok (.dup, 1) := by decide +kernel
theorem dX9_addMove_41 : decode cX9_addMove 41 = .ok (.getfield 91, 3) := by decide +kernel
theorem dX9_addMove_44 : decode cX9_addMove 44 = .ok (.iconst 1, 1) := by decide +kernel
theorem dX9_addMove_45 : decode cX9_addMove 45 = .ok (.iadd, 1) := by decide +kernel
theorem dX9_addMove_46 : decode cX9_addMove 46 = .ok (.putfield 91, 3) := by decide +kernel
theorem dX9_addMove_49 : decode cX9_addMove 49 = .ok (.return_, 1) := by decide +kernel
theorem dX10_init_0 : decode cX10_init 0 = .ok (.aload_n 0, 1) := by decide +kernel
theorem dX10_init_1 : decode cX10_init 1 = .ok (.invokespecial 3, 3) := by decide +kernel
theorem dX10_init_4 : decode cX10_init 4 = .ok (.aload_n 0, 1) := by decide +kernel
theorem dX10_init_5 : decode cX10_init 5 = .ok (.bipush 6, 2) := by decide +kernel
theorem dX10_init_7 : decode cX10_init 7 = .ok (.newarray .long, 2) := by decide +kernel
theorem dX10_init_9 : decode cX10_init 9 = .ok (.putfield 9, 3) := by decide +kernel
theorem dX10_init_12 : decode cX10_init 12 = .ok (.return_, 1) := by decide +kernel
theorem dX10_set_0 : decode cX10_set 0 = .ok (.aload_n 0, 1) := by decide +kernel
theorem dX10_set_1 : decode cX10_set 1 = .ok (.getfield 9, 3) := by decide +kernel
theorem dX10_set_4 : decode cX10_set 4 = .ok (.lconst 0, 1) := by decide +kernel
theorem dX10_set_5 : decode cX10_set 5 = .ok (.invokestatic 13, 3) := by decide +kernel
theorem dX10_set_8 : decode cX10_set 8 = .ok (.aload_n 0, 1) := by decide +kernel
theorem dX10_set_9 : decode cX10_set 9 = .ok (.getfield 9, 3) := by decide +kernel
theorem dX10_set_12 : decode cX10_set 12 = .ok (.iconst 0, 1) := by decide +kernel
theorem dX10_set_13 : decode cX10_set 13 = .ok (.lload_n 1, 1) := by decide +kernel
theorem dX10_set_14 : decode cX10_set 14 = .ok (.ldc2_w 19, 3) := by decide +kernel
theorem dX10_set_17 : decode cX10_set 17 = .ok (.land, 1) := by decide +kernel
theorem dX10_set_18 : decode cX10_set 18 = .ok (.lastore, 1) := by decide +kernel
theorem dX10_set_19 : decode cX10_set 19 = .ok (.aload_n 0, 1) := by decide +kernel
theorem dX10_set_20 : decode cX10_set 20 = .ok (.getfield 9, 3) := by decide +kernel
