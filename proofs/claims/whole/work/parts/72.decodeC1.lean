theorem dX5_readWord_50 : decode cX5_readWord 50 = .ok (.putfield 22, 3) := by decide +kernel
theorem dX5_readWord_53 : decode cX5_readWord 53 = .ok (.goto (-48), 3) := by decide +kernel
theorem dX5_readWord_56 : decode cX5_readWord 56 = .ok (.return_, 1) := by decide +kernel
theorem dX5_readSign_0 : decode cX5_readSign 0 = .ok (.aload_n 0, 1) := by decide +kernel
theorem dX5_readSign_1 : decode cX5_readSign 1 = .ok (.aload_n 0, 1) := by decide +kernel
theorem dX5_readSign_2 : decode cX5_readSign 2 = .ok (.getfield 15, 3) := by decide +kernel
theorem dX5_readSign_5 : decode cX5_readSign 5 = .ok (.aload_n 0, 1) := by decide +kernel
theorem dX5_readSign_6 : decode cX5_readSign 6 = .ok (.getfield 22, 3) := by decide +kernel
theorem dX5_readSign_9 : decode cX5_readSign 9 = .ok (.invokevirtual 31, 3) := by decide +kernel
theorem dX5_readSign_12 : decode cX5_readSign 12 = .ok (.putfield 46, 3) := by decide +kernel
theorem dX5_readSign_15 : decode cX5_readSign 15 = .ok (.aload_n 0, 1) := by decide +kernel
theorem dX5_readSign_16 : decode cX5_readSign 16 = .ok (.aload_n 0, 1) := by decide +kernel
theorem dX5_readSign_17 : decode cX5_readSign 17 = .ok (.getfield 46, 3) := by decide +kernel
theorem dX5_readSign_20 : decode cX5_readSign 20 = .ok (.bipush 33, 2) := by decide +kernel
theorem dX5_readSign_22 : decode cX5_readSign 22 = .ok (.if_icmp .lt 16, 3) := by decide +kernel
theorem dX5_readSign_25 : decode cX5_readSign 25 = .ok (.aload_n 0, 1) := by decide +kernel
theorem dX5_readSign_26 : decode cX5_readSign 26 = .ok (.getfield 46, 3) := by decide +kernel
theorem dX5_readSign_29 : decode cX5_readSign 29 = .ok (.bipush 126, 2) := by decide +kernel
theorem dX5_readSign_31 : decode cX5_readSign 31 = .ok (.if_icmp .gt 7, 3) := by decide +kernel
theorem dX5_readSign_34 : decode cX5_readSign 34 = .ok (.iconst 3, 1) := by decide +kernel
theorem dX5_readSign_35 : decode cX5_readSign 35 = .ok (.goto 4, 3) := by decide +kernel
theorem dX5_readSign_38 : decode cX5_readSign 38 = .ok (.iconst 4, 1) := by decide +kernel
theorem dX5_readSign_39 : decode cX5_readSign 39 = .ok (.putfield 49, 3) := by decide +kernel
theorem dX5_readSign_42 : decode cX5_readSign 42 = .ok (.aload_n 0, 1) := by decide +kernel
theorem dX5_readSign_43 : decode cX5_readSign 43 = .ok (.iconst 1, 1) := by decide +kernel
theorem dX5_readSign_44 : decode cX5_readSign 44 = .ok (.putfield 43, 3) := by decide +kernel
theorem dX5_readSign_47 : decode cX5_readSign 47 = .ok (.aload_n 0, 1) := by decide +kernel
theorem dX5_readSign_48 : decode cX5_readSign 48 = .ok (.dup, 1) := by decide +kernel
theorem dX5_readSign_49 : decode cX5_readSign 49 = .ok (.getfield 22, 3) := by decide +kernel
theorem dX5_readSign_52 : decode cX5_readSign 52 = .ok (.iconst 1, 1) := by decide +kernel
theorem dX5_readSign_53 : decode cX5_readSign 53 = .ok (.iadd, 1) := by decide +kernel
theorem dX5_readSign_54 : decode cX5_readSign 54 = .ok (.putfield 22, 3) := by decide +kernel
theorem dX5_readSign_57 : decode cX5_readSign 57 = .ok (.return_, 1) := by decide +kernel
theorem dX5_isBlank_0 : decode cX5_isBlank 0 = .ok (.iload_n 0, 1) := by decide +kernel
theorem dX5_isBlank_1 : decode cX5_isBlank 1 = .ok (.bipush 32, 2) := by decide +kernel
theorem dX5_isBlank_3 : decode cX5_isBlank 3 = .ok (.if_icmp .eq 9, 3) := by decide +kernel
theorem dX5_isBlank_6 : decode cX5_isBlank 6 = .ok (.iload_n 0, 1) := by decide +kernel
theorem dX5_isBlank_7 : decode cX5_isBlank 7 = .ok (.bipush 10, 2) := by decide +kernel
theorem dX5_isBlank_9 : decode cX5_isBlank 9 = .ok (.if_icmp .ne 7, 3) := by decide +kernel
theorem dX5_isBlank_12 : decode cX5_isBlank 12 = .ok (.iconst 1, 1) := by decide +kernel
theorem dX5_isBlank_13 : decode cX5_isBlank 13 = .ok (.goto 4, 3) := by decide +kernel
theorem dX5_isBlank_16 : decode cX5_isBlank 16 = .ok (.iconst 0, 1) := by decide +kernel
theorem dX5_isBlank_17 : decode cX5_isBlank 17 = .ok (.ireturn, 1) := by decide +kernel
theorem dX5_isDigit_0 : decode cX5_isDigit 0 = .ok (.iload_n 0, 1) := by decide +kernel
theorem dX5_isDigit_1 : decode cX5_isDigit 1 = .ok (.bipush 48, 2) := by decide +kernel
theorem dX5_isDigit_3 : decode cX5_isDigit 3 = .ok (.if_icmp .lt 13, 3) := by decide +kernel
theorem dX5_isDigit_6 : decode cX5_isDigit 6 = .ok (.iload_n 0, 1) := by decide +kernel
theorem dX5_isDigit_7 : decode cX5_isDigit 7 = .ok (.bipush 57, 2) := by decide +kernel
theorem dX5_isDigit_9 : decode cX5_isDigit 9 = .ok (.if_icmp .gt 7, 3) := by decide +kernel
theorem dX5_isDigit_12 : decode cX5_isDigit 12 = .ok (.iconst 1, 1) := by decide +kernel
theorem dX5_isDigit_13 : decode cX5_isDigit 13 = .ok (.goto 4, 3) := by decide +kernel
theorem dX5_isDigit_16 : decode cX5_isDigit 16 = .ok (.iconst 0, 1) := by decide +kernel
theorem dX5_isDigit_17 : decode cX5_isDigit 17 = .ok (.ireturn, 1) := by decide +kernel
theorem dX5_isLetter_0 : decode cX5_isLetter 0 = .ok (.iload_n 0, 1) := by decide +kernel
theorem dX5_isLetter_1 : decode cX5_isLetter 1 = .ok (.bipush 97, 2) := by decide +kernel
theorem dX5_isLetter_3 : decode cX5_isLetter 3 = .ok (.if_icmp .lt 13, 3) := by decide +kernel
theorem dX5_isLetter_6 : decode cX5_isLetter 6 = .ok (.iload_n 0, 1) := by decide +kernel
theorem dX5_isLetter_7 : decode cX5_isLetter 7 = .ok (.bipush 122, 2) := by decide +kernel
theorem dX5_isLetter_9 : decode cX5_isLetter 9 = .ok (.if_icmp .gt 7, 3) := by decide +kernel
theorem dX5_isLetter_12 : decode cX5_isLetter 12 = .ok (.iconst 1, 1) := by decide +kernel
theorem dX5_isLetter_13 : decode cX5_isLetter 13 = .ok (.goto 4, 3) := by decide +kernel
theorem dX5_isLetter_16 : decode cX5_isLetter 16 = .ok (.iconst 0, 1) := by decide +kernel
theorem dX5_isLetter_17 : decode cX5_isLetter 17 = .ok (.ireturn, 1) := by decide +kernel
theorem dX5_isSign_0 : decode cX5_isSign 0 = .ok (.aload_n 0, 1) := by decide +kernel
theorem dX5_isSign_1 : decode cX5_isSign 1 = .ok (.getfield 49, 3) := by decide +kernel
theorem dX5_isSign_4 : decode cX5_isSign 4 = .ok (.iconst 3, 1) := by decide +kernel
theorem dX5_isSign_5 : decode cX5_isSign 5 = .ok (.if_icmp .ne 15, 3) := by decide +kernel
theorem dX5_isSign_8 : decode cX5_isSign 8 = .ok (.aload_n 0, 1) := by decide +kernel
theorem dX5_isSign_9 : decode cX5_isSign 9 = .ok (.getfield 46, 3) := by decide +kernel
theorem dX5_isSign_12 : decode cX5_isSign 12 = .ok (.iload_n 1, 1) := by decide +kernel
theorem dX5_isSign_13 : decode cX5_isSign 13 = .ok (.if_icmp .ne 7, 3) := by decide +kernel
theorem dX5_isSign_16 : decode cX5_isSign 16 = .ok (.iconst 1, 1) := by decide +kernel
theorem dX5_isSign_17 : decode cX5_isSign 17 = .ok (.goto 4, 3) := by decide +kernel
theorem dX5_isSign_20 : decode cX5_isSign 20 = .ok (.iconst 0, 1) := by decide +kernel
theorem dX5_isSign_21 : decode cX5_isSign 21 = .ok (.ireturn, 1) := by decide +kernel
theorem dX5_isWord_0 : decode cX5_isWord 0 = .ok (.aload_n 0, 1) := by decide +kernel
theorem dX5_isWord_1 : decode cX5_isWord 1 = .ok (.getfield 49, 3) := by decide +kernel
theorem dX5_isWord_4 : decode cX5_isWord 4 = .ok (.iconst 2, 1) := by decide +kernel
theorem dX5_isWord_5 : decode cX5_isWord 5 = .ok (.if_icmp .ne 64, 3) := by decide +kernel
theorem dX5_isWord_8 : decode cX5_isWord 8 = .ok (.aload_n 0, 1) := by decide +kernel
theorem dX5_isWord_9 : decode cX5_isWord 9 = .ok (.getfield 43, 3) := by decide +kernel
theorem dX5_isWord_12 : decode cX5_isWord 12 = .ok (.iconst 3, 1) := by decide +kernel
theorem dX5_isWord_13 : decode cX5_isWord 13 = .ok (.if_icmp .ne 56, 3) := by decide +kernel
theorem dX5_isWord_16 : decode cX5_isWord 16 = .ok (.aload_n 0, 1) := by decide +kernel
theorem dX5_isWord_17 : decode cX5_isWord 17 = .ok (.getfield 15, 3) := by decide +kernel
theorem dX5_isWord_20 : decode cX5_isWord 20 = .ok (.aload_n 0, 1) := by decide +kernel
theorem dX5_isWord_21 : decode cX5_isWord 21 = .ok (.getfield 40, 3) := by decide +kernel
theorem dX5_isWord_24 : decode cX5_isWord 24 = .ok (.invokevirtual 31, 3) := by decide +kernel
theorem dX5_isWord_27 : decode cX5_isWord 27 = .ok (.iload_n 1, 1) := by decide +kernel
theorem dX5_isWord_28 : decode cX5_isWord 28 = .ok (.if_icmp .ne 41, 3) := by decide +kernel
theorem dX5_isWord_31 : decode cX5_isWord 31 = .ok (.aload_n 0, 1) := by decide +kernel
theorem dX5_isWord_32 : decode cX5_isWord 32 = .ok (.getfield 15, 3) := by decide +kernel
theorem dX5_isWord_35 : decode cX5_isWord 35 = .ok (.aload_n 0, 1) := by decide +kernel
theorem dX5_isWord_36 : decode cX5_isWord 36 = .ok (.getfield 40, 3) := by decide +kernel
theorem dX5_isWord_39 : decode cX5_isWord 39 = .ok (.iconst 1, 1) := by decide +kernel
theorem dX5_isWord_40 : decode cX5_isWord 40 = .ok (.iadd, 1) := by decide +kernel
theorem dX5_isWord_41 : decode cX5_isWord 41 = .ok (.invokevirtual 31, 3) := by decide +kernel
theorem dX5_isWord_44 : decode cX5_isWord 44 = .ok (.iload_n 2, 1) := by decide +kernel
theorem dX5_isWord_45 : decode cX5_isWord 45 = .ok (.if_icmp .ne 24, 3) := by decide +kernel
theorem dX5_isWord_48 : decode cX5_isWord 48 = .ok (.aload_n 0, 1) := by decide +kernel
theorem dX5_isWord_49 : decode cX5_isWord 49 = .ok (.getfield 15, 3) := by decide +kernel
theorem dX5_isWord_52 : decode cX5_isWord 52 = .ok (.aload_n 0, 1) := by decide +kernel
theorem dX5_isWord_53 : decode cX5_isWord 53 = .ok (.getfield 40, 3) := by decide +kernel
theorem dX5_isWord_56 : decode cX5_isWord 56 = .ok (.iconst 2, 1) := by decide +kernel
theorem dX5_isWord_57 : decode cX5_isWord 57 = .ok (.iadd, 1) := by decide +kernel
theorem dX5_isWord_58 : decode cX5_isWord 58 = .ok (.invokevirtual 31, 3) := by decide +kernel
theorem dX5_isWord_61 : decode cX5_isWord 61 = .ok (.iload_n 3, 1) := by decide +kernel
theorem dX5_isWord_62 : decode cX5_isWord 62 = .ok (.if_icmp .ne 7, 3) := by decide +kernel
theorem dX5_isWord_65 : decode cX5_isWord 65 = .ok (.iconst 1, 1) := by decide +kernel
theorem dX5_isWord_66 : decode cX5_isWord 66 = .ok (.goto 4, 3) := by decide +kernel
theorem dX5_isWord_69 : decode cX5_isWord 69 = .ok (.iconst 0, 1) := by decide +kernel
theorem dX5_isWord_70 : decode cX5_isWord 70 = .ok (.ireturn, 1) := by decide +kernel
theorem dX5_fail_0 : decode cX5_fail 0 = .ok (.aload_n 0, 1) := by decide +kernel
theorem dX5_fail_1 : decode cX5_fail 1 = .ok (.iload_n 1, 1) := by decide +kernel
theorem dX5_fail_2 : decode cX5_fail 2 = .ok (.putfield 25, 3) := by decide +kernel
theorem dX5_fail_5 : decode cX5_fail 5 = .ok (.aload_n 0, 1) := by decide +kernel
theorem dX5_fail_6 : decode cX5_fail 6 = .ok (.aload_n 0, 1) := by decide +kernel
theorem dX5_fail_7 : decode cX5_fail 7 = .ok (.getfield 40, 3) := by decide +kernel
theorem dX5_fail_10 : decode cX5_fail 10 = .ok (.putfield 9, 3) := by decide +kernel
theorem dX5_fail_13 : decode cX5_fail 13 = .ok (.iconst 0, 1) := by decide +kernel
theorem dX5_fail_14 : decode cX5_fail 14 = .ok (.ireturn, 1) := by decide +kernel
theorem dX5_failAtEnd_0 : decode cX5_failAtEnd 0 = .ok (.aload_n 0, 1) := by decide +kernel
theorem dX5_failAtEnd_1 : decode cX5_failAtEnd 1 = .ok (.iload_n 1, 1) := by decide +kernel
theorem dX5_failAtEnd_2 : decode cX5_failAtEnd 2 = .ok (.putfield 25, 3) := by decide +kernel
theorem dX5_failAtEnd_5 : decode cX5_failAtEnd 5 = .ok (.aload_n 0, 1) := by decide +kernel
theorem dX5_failAtEnd_6 : decode cX5_failAtEnd 6 = .ok (.aload_n 0, 1) := by decide +kernel
theorem dX5_failAtEnd_7 : decode cX5_failAtEnd 7 = .ok (.getfield 19, 3) := by decide +kernel
theorem dX5_failAtEnd_10 : decode cX5_failAtEnd 10 = .ok (.putfield 9, 3) := by decide +kernel
theorem dX5_failAtEnd_13 : decode cX5_failAtEnd 13 = .ok (.return_, 1) := by decide +kernel
theorem dX5_isNumber_0 : decode cX5_isNumber 0 = .ok (.aload_n 0, 1) := by decide +kernel
theorem dX5_isNumber_1 : decode cX5_isNumber 1 = .ok (.getfield 49, 3) := by decide +kernel
theorem dX5_isNumber_4 : decode cX5_isNumber 4 = .ok (.iconst 1, 1) := by decide +kernel
theorem dX5_isNumber_5 : decode cX5_isNumber 5 = .ok (.if_icmp .eq 9, 3) := by decide +kernel
theorem dX5_isNumber_8 : decode cX5_isNumber 8 = .ok (.aload_n 0, 1) := by decide +kernel
theorem dX5_isNumber_9 : decode cX5_isNumber 9 = .ok (.iconst 1, 1) := by decide +kernel
theorem dX5_isNumber_10 : decode cX5_isNumber 10 = .ok (.invokevirtual 67, 3) := by decide +kernel
theorem dX5_isNumber_13 : decode cX5_isNumber 13 = .ok (.ireturn, 1) := by decide +kernel
theorem dX5_isNumber_14 : decode cX5_isNumber 14 = .ok (.aload_n 0, 1) := by decide +kernel
theorem dX5_isNumber_15 : decode cX5_isNumber 15 = .ok (.getfield 43, 3) := by decide +kernel
theorem dX5_isNumber_18 : decode cX5_isNumber 18 = .ok (.iconst 2, 1) := by decide +kernel
theorem dX5_isNumber_19 : decode cX5_isNumber 19 = .ok (.if_icmp .gt 19, 3) := by decide +kernel
theorem dX5_isNumber_22 : decode cX5_isNumber 22 = .ok (.aload_n 0, 1) := by decide +kernel
theorem dX5_isNumber_23 : decode cX5_isNumber 23 = .ok (.getfield 46, 3) := by decide +kernel
theorem dX5_isNumber_26 : decode cX5_isNumber 26 = .ok (.iload_n 1, 1) := by decide +kernel
theorem dX5_isNumber_27 : decode cX5_isNumber 27 = .ok (.if_icmp .lt 11, 3) := by decide +kernel
theorem dX5_isNumber_30 : decode cX5_isNumber 30 = .ok (.aload_n 0, 1) := by decide +kernel
theorem dX5_isNumber_31 : decode cX5_isNumber 31 = .ok (.getfield 46, 3) := by decide +kernel
theorem dX5_isNumber_34 : decode cX5_isNumber 34 = .ok (.iload_n 2, 1) := by decide +kernel
theorem dX5_isNumber_35 : decode cX5_isNumber 35 = .ok (.if_icmp .le 9, 3) := by decide +kernel
theorem dX5_isNumber_38 : decode cX5_isNumber 38 = .ok (.aload_n 0, 1) := by decide +kernel
theorem dX5_isNumber_39 : decode cX5_isNumber 39 = .ok (.iconst 2, 1) := by decide +kernel
theorem dX5_isNumber_40 : decode cX5_isNumber 40 = .ok (.invokevirtual 67, 3) := by decide +kernel
theorem dX5_isNumber_43 : decode cX5_isNumber 43 = .ok (.ireturn, 1) := by decide +kernel
theorem dX5_isNumber_44 : decode cX5_isNumber 44 = .ok (.iconst 1, 1) := by decide +kernel
theorem dX5_isNumber_45 : decode cX5_isNumber 45 = .ok (.ireturn, 1) := by decide +kernel
theorem dX5_passSign_0 : decode cX5_passSign 0 = .ok (.aload_n 0, 1) := by decide +kernel
theorem dX5_passSign_1 : decode cX5_passSign 1 = .ok (.iload_n 1, 1) := by decide +kernel
theorem dX5_passSign_2 : decode cX5_passSign 2 = .ok (.invokevirtual 70, 3) := by decide +kernel
theorem dX5_passSign_5 : decode cX5_passSign 5 = .ok (.ifCond .ne 9, 3) := by decide +kernel
theorem dX5_passSign_8 : decode cX5_passSign 8 = .ok (.aload_n 0, 1) := by decide +kernel
theorem dX5_passSign_9 : decode cX5_passSign 9 = .ok (.iconst 1, 1) := by decide +kernel
theorem dX5_passSign_10 : decode cX5_passSign 10 = .ok (.invokevirtual 67, 3) := by decide +kernel
theorem dX5_passSign_13 : decode cX5_passSign 13 = .ok (.ireturn, 1) := by decide +kernel
theorem dX5_passSign_14 : decode cX5_passSign 14 = .ok (.aload_n 0, 1) := by decide +kernel
theorem dX5_passSign_15 : decode cX5_passSign 15 = .ok (.invokevirtual 28, 3) := by decide +kernel
theorem dX5_passSign_18 : decode cX5_passSign 18 = .ok (.iconst 1, 1) := by decide +kernel
theorem dX5_passSign_19 : decode cX5_passSign 19 = .ok (.ireturn, 1) := by decide +kernel
theorem dX6_init_0 : decode cX6_init 0 = .ok (.aload_n 0, 1) := by decide +kernel
theorem dX6_init_1 : decode cX6_init 1 = .ok (.invokespecial 3, 3) := by decide +kernel
theorem dX6_init_4 : decode cX6_init 4 = .ok (.aload_n 0, 1) := by decide +kernel
theorem dX6_init_5 : decode cX6_init 5 = .ok (.iconst 4, 1) := by decide +kernel
theorem dX6_init_6 : decode cX6_init 6 = .ok (.newarray .long, 2) := by decide +kernel
theorem dX6_init_8 : decode cX6_init 8 = .ok (.putfield 11, 3) := by decide +kernel
theorem dX6_init_11 : decode cX6_init 11 = .ok (.aload_n 0, 1) := by decide +kernel
theorem dX6_init_12 : decode cX6_init 12 = .ok (.iconst 4, 1) := by decide +kernel
theorem dX6_init_13 : decode cX6_init 13 = .ok (.newarray .boolean, 2) := by decide +kernel
theorem dX6_init_15 : decode cX6_init 15 = .ok (.putfield 15, 3) := by decide +kernel
theorem dX6_init_18 : decode cX6_init 18 = .ok (.aload_n 0, 1) := by decide +kernel
theorem dX6_init_19 : decode cX6_init 19 = .ok (.sipush 240, 3) := by decide +kernel
theorem dX6_init_22 : decode cX6_init 22 = .ok (.newarray .long, 2) := by decide +kernel
theorem dX6_init_24 : decode cX6_init 24 = .ok (.putfield 19, 3) := by decide +kernel
theorem dX6_init_27 : decode cX6_init 27 = .ok (.aload_n 0, 1) := by decide +kernel
theorem dX6_init_28 : decode cX6_init 28 = .ok (.bipush 48, 2) := by decide +kernel
theorem dX6_init_30 : decode cX6_init 30 = .ok (.newarray .int, 2) := by decide +kernel
theorem dX6_init_32 : decode cX6_init 32 = .ok (.putfield 22, 3) := by decide +kernel
theorem dX6_init_35 : decode cX6_init 35 = .ok (.aload_n 0, 1) := by decide +kernel
theorem dX6_init_36 : decode cX6_init 36 = .ok (.aload_n 1, 1) := by decide +kernel
theorem dX6_init_37 : decode cX6_init 37 = .ok (.putfield 26, 3) := by decide +kernel
theorem dX6_init_40 : decode cX6_init 40 = .ok (.return_, 1) := by decide +kernel
theorem dX6_forget_0 : decode cX6_forget 0 = .ok (.aload_n 0, 1) := by decide +kernel
theorem dX6_forget_1 : decode cX6_forget 1 = .ok (.iconst 0, 1) := by decide +kernel
theorem dX6_forget_2 : decode cX6_forget 2 = .ok (.putfield 30, 3) := by decide +kernel
theorem dX6_forget_5 : decode cX6_forget 5 = .ok (.return_, 1) := by decide +kernel
theorem dX6_workOut_0 : decode cX6_workOut 0 = .ok (.aload_n 0, 1) := by decide +kernel
theorem dX6_workOut_1 : decode cX6_workOut 1 = .ok (.iconst 0, 1) := by decide +kernel
theorem dX6_workOut_2 : decode cX6_workOut 2 = .ok (.putfield 30, 3) := by decide +kernel
theorem dX6_workOut_5 : decode cX6_workOut 5 = .ok (.aload_n 0, 1) := by decide +kernel
theorem dX6_workOut_6 : decode cX6_workOut 6 = .ok (.iconst 0, 1) := by decide +kernel
theorem dX6_workOut_7 : decode cX6_workOut 7 = .ok (.putfield 34, 3) := by decide +kernel
theorem dX6_workOut_10 : decode cX6_workOut 10 = .ok (.aload_n 0, 1) := by decide +kernel
theorem dX6_workOut_11 : decode cX6_workOut 11 = .ok (.aload_n 0, 1) := by decide +kernel
theorem dX6_workOut_12 : decode cX6_workOut 12 = .ok (.getfield 26, 3) := by decide +kernel
theorem dX6_workOut_15 : decode cX6_workOut 15 = .ok (.getfield 37, 3) := by decide +kernel
theorem dX6_workOut_18 : decode cX6_workOut 18 = .ok (.putfield 42, 3) := by decide +kernel
theorem dX6_workOut_21 : decode cX6_workOut 21 = .ok (.aload_n 0, 1) := by decide +kernel
theorem dX6_workOut_22 : decode cX6_workOut 22 = .ok (.getfield 26, 3) := by decide +kernel
theorem dX6_workOut_25 : decode cX6_workOut 25 = .ok (.invokevirtual 45, 3) := by decide +kernel
theorem dX6_workOut_28 : decode cX6_workOut 28 = .ok (.ifCond .eq 12, 3) := by decide +kernel
theorem dX6_workOut_31 : decode cX6_workOut 31 = .ok (.aload_n 0, 1) := by decide +kernel
theorem dX6_workOut_32 : decode cX6_workOut 32 = .ok (.lconst 0, 1) := by decide +kernel
theorem dX6_workOut_33 : decode cX6_workOut 33 = .ok (.iconst 0, 1) := by decide +kernel
theorem dX6_workOut_34 : decode cX6_workOut 34 = .ok (.invokevirtual 49, 3) := by decide +kernel
theorem dX6_workOut_37 : decode cX6_workOut 37 = .ok (.goto 48, 3) := by decide +kernel
theorem dX6_workOut_40 : decode cX6_workOut 40 = .ok (.iload_n 1, 1) := by decide +kernel
theorem dX6_workOut_41 : decode cX6_workOut 41 = .ok (.iload_n 2, 1) := by decide +kernel
theorem dX6_workOut_42 : decode cX6_workOut 42 = .ok (.if_icmp .ne 15, 3) := by decide +kernel
theorem dX6_workOut_45 : decode cX6_workOut 45 = .ok (.aload_n 0, 1) := by decide +kernel
theorem dX6_workOut_46 : decode cX6_workOut 46 = .ok (.iload_n 1, 1) := by decide +kernel
theorem dX6_workOut_47 : decode cX6_workOut 47 = .ok (.iconst 0, 1) := by decide +kernel
theorem dX6_workOut_48 : decode cX6_workOut 48 = .ok (.bipush 25, 2) := by decide +kernel
theorem dX6_workOut_50 : decode cX6_workOut 50 = .ok (.lconst 0, 1) := by decide +kernel
theorem dX6_workOut_51 : decode cX6_workOut 51 = .ok (.invokevirtual 53, 3) := by decide +kernel
theorem dX6_workOut_54 : decode cX6_workOut 54 = .ok (.goto 31, 3) := by decide +kernel
theorem dX6_workOut_57 : decode cX6_workOut 57 = .ok (.aload_n 0, 1) := by decide +kernel
theorem dX6_workOut_58 : decode cX6_workOut 58 = .ok (.iload_n 1, 1) := by decide +kernel
theorem dX6_workOut_59 : decode cX6_workOut 59 = .ok (.iload_n 2, 1) := by decide +kernel
theorem dX6_workOut_60 : decode cX6_workOut 60 = .ok (.invokestatic 57, 3) := by decide +kernel
theorem dX6_workOut_63 : decode cX6_workOut 63 = .ok (.iload_n 1, 1) := by decide +kernel
theorem dX6_workOut_64 : decode cX6_workOut 64 = .ok (.iload_n 2, 1) := by decide +kernel
theorem dX6_workOut_65 : decode cX6_workOut 65 = .ok (.invokestatic 63, 3) := by decide +kernel
theorem dX6_workOut_68 : decode cX6_workOut 68 = .ok (.invokevirtual 66, 3) := by decide +kernel
theorem dX6_workOut_71 : decode cX6_workOut 71 = .ok (.aload_n 0, 1) := by decide +kernel
theorem dX6_workOut_72 : decode cX6_workOut 72 = .ok (.iload_n 1, 1) := by decide +kernel
theorem dX6_workOut_73 : decode cX6_workOut 73 = .ok (.iload_n 2, 1) := by decide +kernel
theorem dX6_workOut_74 : decode cX6_workOut 74 = .ok (.invokestatic 63, 3) := by decide +kernel
theorem dX6_workOut_77 : decode cX6_workOut 77 = .ok (.iload_n 1, 1) := by decide +kernel
theorem dX6_workOut_78 : decode cX6_workOut 78 = .ok (.iload_n 2, 1) := by decide +kernel
theorem dX6_workOut_79 : decode cX6_workOut 79 = .ok (.invokestatic 57, 3) := by decide +kernel
theorem dX6_workOut_82 : decode cX6_workOut 82 = .ok (.invokevirtual 66, 3) := by decide +kernel
theorem dX6_workOut_85 : decode cX6_workOut 85 = .ok (.return_, 1) := by decide +kernel
theorem dX6_extend_0 : decode cX6_extend 0 = .ok (.iconst 0, 1) := by decide +kernel
theorem dX6_extend_1 : decode cX6_extend 1 = .ok (.istore 6, 2) := by decide +kernel
theorem dX6_extend_3 : decode cX6_extend 3 = .ok (.iconst 1, 1) := by decide +kernel
theorem dX6_extend_4 : decode cX6_extend 4 = .ok (.istore 7, 2) := by decide +kernel
theorem dX6_extend_6 : decode cX6_extend 6 = .ok (.iload 7, 2) := by decide +kernel
theorem dX6_extend_8 : decode cX6_extend 8 = .ok (.iload_n 3, 1) := by decide +kernel
theorem dX6_extend_9 : decode cX6_extend 9 = .ok (.if_icmp .gt 86, 3) := by decide +kernel
theorem dX6_extend_12 : decode cX6_extend 12 = .ok (.iload_n 2, 1) := by decide +kernel
theorem dX6_extend_13 : decode cX6_extend 13 = .ok (.iconst 4, 1) := by decide +kernel
theorem dX6_extend_14 : decode cX6_extend 14 = .ok (.if_icmp .ge 81, 3) := by decide +kernel
theorem dX6_extend_17 : decode cX6_extend 17 = .ok (.aload_n 0, 1) := by decide +kernel
theorem dX6_extend_18 : decode cX6_extend 18 = .ok (.getfield 26, 3) := by decide +kernel
theorem dX6_extend_21 : decode cX6_extend 21 = .ok (.iload 7, 2) := by decide +kernel
theorem dX6_extend_23 : decode cX6_extend 23 = .ok (.iload_n 1, 1) := by decide +kernel
theorem dX6_extend_24 : decode cX6_extend 24 = .ok (.invokevirtual 70, 3) := by decide +kernel
theorem dX6_extend_27 : decode cX6_extend 27 = .ok (.ifCond .eq 62, 3) := by decide +kernel
theorem dX6_extend_30 : decode cX6_extend 30 = .ok (.iload 7, 2) := by decide +kernel
theorem dX6_extend_32 : decode cX6_extend 32 = .ok (.iload_n 1, 1) := by decide +kernel
theorem dX6_extend_33 : decode cX6_extend 33 = .ok (.isub, 1) := by decide +kernel
theorem dX6_extend_34 : decode cX6_extend 34 = .ok (.iconst 0, 1) := by decide +kernel
theorem dX6_extend_35 : decode cX6_extend 35 = .ok (.invokestatic 57, 3) := by decide +kernel
theorem dX6_extend_38 : decode cX6_extend 38 = .ok (.istore 8, 2) := by decide +kernel
theorem dX6_extend_40 : decode cX6_extend 40 = .ok (.aload_n 0, 1) := by decide +kernel
theorem dX6_extend_41 : decode cX6_extend 41 = .ok (.getfield 26, 3) := by decide +kernel
theorem dX6_extend_44 : decode cX6_extend 44 = .ok (.iload 7, 2) := by decide +kernel
theorem dX6_extend_46 : decode cX6_extend 46 = .ok (.iload 8, 2) := by decide +kernel
theorem dX6_extend_48 : decode cX6_extend 48 = .ok (.invokevirtual 74, 3) := by decide +kernel
theorem dX6_extend_51 : decode cX6_extend 51 = .ok (.istore 9, 2) := by decide +kernel
theorem dX6_extend_53 : decode cX6_extend 53 = .ok (.aload_n 0, 1) := by decide +kernel
theorem dX6_extend_54 : decode cX6_extend 54 = .ok (.iload_n 1, 1) := by decide +kernel
theorem dX6_extend_55 : decode cX6_extend 55 = .ok (.iload_n 2, 1) := by decide +kernel
theorem dX6_extend_56 : decode cX6_extend 56 = .ok (.iconst 1, 1) := by decide +kernel
theorem dX6_extend_57 : decode cX6_extend 57 = .ok (.iadd, 1) := by decide +kernel
theorem dX6_extend_58 : decode cX6_extend 58 = .ok (.iload 7, 2) := by decide +kernel
theorem dX6_extend_60 : decode cX6_extend 60 = .ok (.lload 4, 2) := by decide +kernel
theorem dX6_extend_62 : decode cX6_extend 62 = .ok (.iload_n 2, 1) := by decide +kernel
theorem dX6_extend_63 : decode cX6_extend 63 = .ok (.iload 7, 2) := by decide +kernel
theorem dX6_extend_65 : decode cX6_extend 65 = .ok (.iload 8, 2) := by decide +kernel
theorem dX6_extend_67 : decode cX6_extend 67 = .ok (.invokestatic 77, 3) := by decide +kernel
theorem dX6_extend_70 : decode cX6_extend 70 = .ok (.invokevirtual 53, 3) := by decide +kernel
theorem dX6_extend_73 : decode cX6_extend 73 = .ok (.aload_n 0, 1) := by decide +kernel
theorem dX6_extend_74 : decode cX6_extend 74 = .ok (.getfield 26, 3) := by decide +kernel
theorem dX6_extend_77 : decode cX6_extend 77 = .ok (.iload 7, 2) := by decide +kernel
theorem dX6_extend_79 : decode cX6_extend 79 = .ok (.iload 8, 2) := by decide +kernel
theorem dX6_extend_81 : decode cX6_extend 81 = .ok (.iload 9, 2) := by decide +kernel
theorem dX6_extend_83 : decode cX6_extend 83 = .ok (.invokevirtual 81, 3) := by decide +kernel
theorem dX6_extend_86 : decode cX6_extend 86 = .ok (.iconst 1, 1) := by decide +kernel
theorem dX6_extend_87 : decode cX6_extend 87 = .ok (.istore 6, 2) := by decide +kernel
theorem dX6_extend_89 : decode cX6_extend 89 = .ok (.iinc 7 1, 3) := by decide +kernel
theorem dX6_extend_92 : decode cX6_extend 92 = .ok (.goto (-86), 3) := by decide +kernel
theorem dX6_extend_95 : decode cX6_extend 95 = .ok (.iload 6, 2) := by decide +kernel
theorem dX6_extend_97 : decode cX6_extend 97 = .ok (.ifCond .ne 12, 3) := by decide +kernel
theorem dX6_extend_100 : decode cX6_extend 100 = .ok (.aload_n 0, 1) := by decide +kernel
theorem dX6_extend_101 : decode cX6_extend 101 = .ok (.lload 4, 2) := by decide +kernel
theorem dX6_extend_103 : decode cX6_extend 103 = .ok (.iconst 2, 1) := by decide +kernel
theorem dX6_extend_104 : decode cX6_extend 104 = .ok (.iload_n 2, 1) := by decide +kernel
theorem dX6_extend_105 : decode cX6_extend 105 = .ok (.imul, 1) := by decide +kernel
theorem dX6_extend_106 : decode cX6_extend 106 = .ok (.invokevirtual 49, 3) := by decide +kernel
theorem dX6_extend_109 : decode cX6_extend 109 = .ok (.return_, 1) := by decide +kernel
theorem dX6_goByBoth_0 : decode cX6_goByBoth 0 = .ok (.iconst 0, 1) := by decide +kernel
theorem dX6_goByBoth_1 : decode cX6_goByBoth 1 = .ok (.istore_n 3, 1) := by decide +kernel
theorem dX6_goByBoth_2 : decode cX6_goByBoth 2 = .ok (.iconst 1, 1) := by decide +kernel
theorem dX6_goByBoth_3 : decode cX6_goByBoth 3 = .ok (.istore 4, 2) := by decide +kernel
theorem dX6_goByBoth_5 : decode cX6_goByBoth 5 = .ok (.iload 4, 2) := by decide +kernel
theorem dX6_goByBoth_7 : decode cX6_goByBoth 7 = .ok (.bipush 25, 2) := by decide +kernel
theorem dX6_goByBoth_9 : decode cX6_goByBoth 9 = .ok (.if_icmp .gt 84, 3) := by decide +kernel
theorem dX6_goByBoth_12 : decode cX6_goByBoth 12 = .ok (.aload_n 0, 1) := by decide +kernel
theorem dX6_goByBoth_13 : decode cX6_goByBoth 13 = .ok (.getfield 26, 3) := by decide +kernel
theorem dX6_goByBoth_16 : decode cX6_goByBoth 16 = .ok (.iload 4, 2) := by decide +kernel
theorem dX6_goByBoth_18 : decode cX6_goByBoth 18 = .ok (.iload_n 1, 1) := by decide +kernel
theorem dX6_goByBoth_19 : decode cX6_goByBoth 19 = .ok (.invokevirtual 70, 3) := by decide +kernel
theorem dX6_goByBoth_22 : decode cX6_goByBoth 22 = .ok (.ifCond .eq 65, 3) := by decide +kernel
theorem dX6_goByBoth_25 : decode cX6_goByBoth 25 = .ok (.iload 4, 2) := by decide +kernel
theorem dX6_goByBoth_27 : decode cX6_goByBoth 27 = .ok (.iload_n 1, 1) := by decide +kernel
theorem dX6_goByBoth_28 : decode cX6_goByBoth 28 = .ok (.isub, 1) := by decide +kernel
theorem dX6_goByBoth_29 : decode cX6_goByBoth 29 = .ok (.iconst 0, 1) := by decide +kernel
theorem dX6_goByBoth_30 : decode cX6_goByBoth 30 = .ok (.invokestatic 57, 3) := by decide +kernel
theorem dX6_goByBoth_33 : decode cX6_goByBoth 33 = .ok (.istore 5, 2) := by decide +kernel
theorem dX6_goByBoth_35 : decode cX6_goByBoth 35 = .ok (.aload_n 0, 1) := by decide +kernel
theorem dX6_goByBoth_36 : decode cX6_goByBoth 36 = .ok (.getfield 26, 3) := by decide +kernel
theorem dX6_goByBoth_39 : decode cX6_goByBoth 39 = .ok (.iload 4, 2) := by decide +kernel
theorem dX6_goByBoth_41 : decode cX6_goByBoth 41 = .ok (.iload 5, 2) := by decide +kernel
theorem dX6_goByBoth_43 : decode cX6_goByBoth 43 = .ok (.invokevirtual 74, 3) := by decide +kernel
theorem dX6_goByBoth_46 : decode cX6_goByBoth 46 = .ok (.istore 6, 2) := by decide +kernel
theorem dX6_goByBoth_48 : decode cX6_goByBoth 48 = .ok (.aload_n 0, 1) := by decide +kernel
theorem dX6_goByBoth_49 : decode cX6_goByBoth 49 = .ok (.iload_n 2, 1) := by decide +kernel
theorem dX6_goByBoth_50 : decode cX6_goByBoth 50 = .ok (.lconst 0, 1) := by decide +kernel
theorem dX6_goByBoth_51 : decode cX6_goByBoth 51 = .ok (.iconst 0, 1) := by decide +kernel
theorem dX6_goByBoth_52 : decode cX6_goByBoth 52 = .ok (.iload 4, 2) := by decide +kernel
theorem dX6_goByBoth_54 : decode cX6_goByBoth 54 = .ok (.iload 5, 2) := by decide +kernel
theorem dX6_goByBoth_56 : decode cX6_goByBoth 56 = .ok (.invokestatic 77, 3) := by decide +kernel
theorem dX6_goByBoth_59 : decode cX6_goByBoth 59 = .ok (.iload_n 1, 1) := by decide +kernel
theorem dX6_goByBoth_60 : decode cX6_goByBoth 60 = .ok (.iload_n 2, 1) := by decide +kernel
theorem dX6_goByBoth_61 : decode cX6_goByBoth 61 = .ok (.if_icmp .le 7, 3) := by decide +kernel
theorem dX6_goByBoth_64 : decode cX6_goByBoth 64 = .ok (.iconst 3, 1) := by decide +kernel
theorem dX6_goByBoth_65 : decode cX6_goByBoth 65 = .ok (.goto 4, 3) := by decide +kernel
theorem dX6_goByBoth_68 : decode cX6_goByBoth 68 = .ok (.iconst 2, 1) := by decide +kernel
theorem dX6_goByBoth_69 : decode cX6_goByBoth 69 = .ok (.invokevirtual 85, 3) := by decide +kernel
theorem dX6_goByBoth_72 : decode cX6_goByBoth 72 = .ok (.aload_n 0, 1) := by decide +kernel
theorem dX6_goByBoth_73 : decode cX6_goByBoth 73 = .ok (.getfield 26, 3) := by decide +kernel
theorem dX6_goByBoth_76 : decode cX6_goByBoth 76 = .ok (.iload 4, 2) := by decide +kernel
theorem dX6_goByBoth_78 : decode cX6_goByBoth 78 = .ok (.iload 5, 2) := by decide +kernel
theorem dX6_goByBoth_80 : decode cX6_goByBoth 80 = .ok (.iload 6, 2) := by decide +kernel
theorem dX6_goByBoth_82 : decode cX6_goByBoth 82 = .ok (.invokevirtual 81, 3) := by decide +kernel
theorem dX6_goByBoth_85 : decode cX6_goByBoth 85 = .ok (.iconst 1, 1) := by decide +kernel
theorem dX6_goByBoth_86 : decode cX6_goByBoth 86 = .ok (.istore_n 3, 1) := by decide +kernel
theorem dX6_goByBoth_87 : decode cX6_goByBoth 87 = .ok (.iinc 4 1, 3) := by decide +kernel
theorem dX6_goByBoth_90 : decode cX6_goByBoth 90 = .ok (.goto (-85), 3) := by decide +kernel
theorem dX6_goByBoth_93 : decode cX6_goByBoth 93 = .ok (.iload_n 3, 1) := by decide +kernel
theorem dX6_goByBoth_94 : decode cX6_goByBoth 94 = .ok (.ifCond .ne 9, 3) := by decide +kernel
theorem dX6_goByBoth_97 : decode cX6_goByBoth 97 = .ok (.aload_n 0, 1) := by decide +kernel
theorem dX6_goByBoth_98 : decode cX6_goByBoth 98 = .ok (.lconst 0, 1) := by decide +kernel
theorem dX6_goByBoth_99 : decode cX6_goByBoth 99 = .ok (.iconst 0, 1) := by decide +kernel
theorem dX6_goByBoth_100 : decode cX6_goByBoth 100 = .ok (.invokevirtual 49, 3) := by decide +kernel
theorem dX6_goByBoth_103 : decode cX6_goByBoth 103 = .ok (.return_, 1) := by decide +kernel
theorem dX6_goOnBy_0 : decode cX6_goOnBy 0 = .ok (.iconst 0, 1) := by decide +kernel
theorem dX6_goOnBy_1 : decode cX6_goOnBy 1 = .ok (.istore 5, 2) := by decide +kernel
theorem dX6_goOnBy_3 : decode cX6_goOnBy 3 = .ok (.iconst 1, 1) := by decide +kernel
theorem dX6_goOnBy_4 : decode cX6_goOnBy 4 = .ok (.istore 6, 2) := by decide +kernel
theorem dX6_goOnBy_6 : decode cX6_goOnBy 6 = .ok (.iload 6, 2) := by decide +kernel
theorem dX6_goOnBy_8 : decode cX6_goOnBy 8 = .ok (.bipush 25, 2) := by decide +kernel
theorem dX6_goOnBy_10 : decode cX6_goOnBy 10 = .ok (.if_icmp .gt 75, 3) := by decide +kernel
theorem dX6_goOnBy_13 : decode cX6_goOnBy 13 = .ok (.aload_n 0, 1) := by decide +kernel
theorem dX6_goOnBy_14 : decode cX6_goOnBy 14 = .ok (.getfield 26, 3) := by decide +kernel
theorem dX6_goOnBy_17 : decode cX6_goOnBy 17 = .ok (.iload 6, 2) := by decide +kernel
theorem dX6_goOnBy_19 : decode cX6_goOnBy 19 = .ok (.iload_n 1, 1) := by decide +kernel
theorem dX6_goOnBy_20 : decode cX6_goOnBy 20 = .ok (.invokevirtual 70, 3) := by decide +kernel
theorem dX6_goOnBy_23 : decode cX6_goOnBy 23 = .ok (.ifCond .eq 56, 3) := by decide +kernel
theorem dX6_goOnBy_26 : decode cX6_goOnBy 26 = .ok (.iload 6, 2) := by decide +kernel
theorem dX6_goOnBy_28 : decode cX6_goOnBy 28 = .ok (.iload_n 1, 1) := by decide +kernel
theorem dX6_goOnBy_29 : decode cX6_goOnBy 29 = .ok (.isub, 1) := by decide +kernel
theorem dX6_goOnBy_30 : decode cX6_goOnBy 30 = .ok (.iconst 0, 1) := by decide +kernel
theorem dX6_goOnBy_31 : decode cX6_goOnBy 31 = .ok (.invokestatic 57, 3) := by decide +kernel
theorem dX6_goOnBy_34 : decode cX6_goOnBy 34 = .ok (.istore 7, 2) := by decide +kernel
theorem dX6_goOnBy_36 : decode cX6_goOnBy 36 = .ok (.aload_n 0, 1) := by decide +kernel
theorem dX6_goOnBy_37 : decode cX6_goOnBy 37 = .ok (.getfield 26, 3) := by decide +kernel
theorem dX6_goOnBy_40 : decode cX6_goOnBy 40 = .ok (.iload 6, 2) := by decide +kernel
theorem dX6_goOnBy_42 : decode cX6_goOnBy 42 = .ok (.iload 7, 2) := by decide +kernel
theorem dX6_goOnBy_44 : decode cX6_goOnBy 44 = .ok (.invokevirtual 74, 3) := by decide +kernel
theorem dX6_goOnBy_47 : decode cX6_goOnBy 47 = .ok (.istore 8, 2) := by decide +kernel
theorem dX6_goOnBy_49 : decode cX6_goOnBy 49 = .ok (.aload_n 0, 1) := by decide +kernel
theorem dX6_goOnBy_50 : decode cX6_goOnBy 50 = .ok (.lload_n 2, 1) := by decide +kernel
theorem dX6_goOnBy_51 : decode cX6_goOnBy 51 = .ok (.iconst 1, 1) := by decide +kernel
theorem dX6_goOnBy_52 : decode cX6_goOnBy 52 = .ok (.iload 6, 2) := by decide +kernel
theorem dX6_goOnBy_54 : decode cX6_goOnBy 54 = .ok (.iload 7, 2) := by decide +kernel
theorem dX6_goOnBy_56 : decode cX6_goOnBy 56 = .ok (.invokestatic 77, 3) := by decide +kernel
theorem dX6_goOnBy_59 : decode cX6_goOnBy 59 = .ok (.iconst 4, 1) := by decide +kernel
theorem dX6_goOnBy_60 : decode cX6_goOnBy 60 = .ok (.invokevirtual 49, 3) := by decide +kernel
theorem dX6_goOnBy_63 : decode cX6_goOnBy 63 = .ok (.aload_n 0, 1) := by decide +kernel
theorem dX6_goOnBy_64 : decode cX6_goOnBy 64 = .ok (.getfield 26, 3) := by decide +kernel
theorem dX6_goOnBy_67 : decode cX6_goOnBy 67 = .ok (.iload 6, 2) := by decide +kernel
theorem dX6_goOnBy_69 : decode cX6_goOnBy 69 = .ok (.iload 7, 2) := by decide +kernel
theorem dX6_goOnBy_71 : decode cX6_goOnBy 71 = .ok (.iload 8, 2) := by decide +kernel
theorem dX6_goOnBy_73 : decode cX6_goOnBy 73 = .ok (.invokevirtual 81, 3) := by decide +kernel
theorem dX6_goOnBy_76 : decode cX6_goOnBy 76 = .ok (.iconst 1, 1) := by decide +kernel
theorem dX6_goOnBy_77 : decode cX6_goOnBy 77 = .ok (.istore 5, 2) := by decide +kernel
theorem dX6_goOnBy_79 : decode cX6_goOnBy 79 = .ok (.iinc 6 1, 3) := by decide +kernel
theorem dX6_goOnBy_82 : decode cX6_goOnBy 82 = .ok (.goto (-76), 3) := by decide +kernel
theorem dX6_goOnBy_85 : decode cX6_goOnBy 85 = .ok (.iload 5, 2) := by decide +kernel
theorem dX6_goOnBy_87 : decode cX6_goOnBy 87 = .ok (.ifCond .ne 10, 3) := by decide +kernel
theorem dX6_goOnBy_90 : decode cX6_goOnBy 90 = .ok (.aload_n 0, 1) := by decide +kernel
theorem dX6_goOnBy_91 : decode cX6_goOnBy 91 = .ok (.lload_n 2, 1) := by decide +kernel
theorem dX6_goOnBy_92 : decode cX6_goOnBy 92 = .ok (.iload 4, 2) := by decide +kernel
theorem dX6_goOnBy_94 : decode cX6_goOnBy 94 = .ok (.invokevirtual 49, 3) := by decide +kernel
theorem dX6_goOnBy_97 : decode cX6_goOnBy 97 = .ok (.return_, 1) := by decide +kernel
theorem dX6_withMove_0 : decode cX6_withMove 0 = .ok (.bipush 32, 2) := by decide +kernel
theorem dX6_withMove_2 : decode cX6_withMove 2 = .ok (.iload_n 3, 1) := by decide +kernel
theorem dX6_withMove_3 : decode cX6_withMove 3 = .ok (.imul, 1) := by decide +kernel
theorem dX6_withMove_4 : decode cX6_withMove 4 = .ok (.iload 4, 2) := by decide +kernel
theorem dX6_withMove_6 : decode cX6_withMove 6 = .ok (.iadd, 1) := by decide +kernel
theorem dX6_withMove_7 : decode cX6_withMove 7 = .ok (.i2l, 1) := by decide +kernel
theorem dX6_withMove_8 : decode cX6_withMove 8 = .ok (.lstore 5, 2) := by decide +kernel
theorem dX6_withMove_10 : decode cX6_withMove 10 = .ok (.lload_n 0, 1) := by decide +kernel
theorem dX6_withMove_11 : decode cX6_withMove 11 = .ok (.lload 5, 2) := by decide +kernel
theorem dX6_withMove_13 : decode cX6_withMove 13 = .ok (.bipush 10, 2) := by decide +kernel
theorem dX6_withMove_15 : decode cX6_withMove 15 = .ok (.iconst 3, 1) := by decide +kernel
theorem dX6_withMove_16 : decode cX6_withMove 16 = .ok (.iload_n 2, 1) := by decide +kernel
theorem dX6_withMove_17 : decode cX6_withMove 17 = .ok (.isub, 1) := by decide +kernel
theorem dX6_withMove_18 : decode cX6_withMove 18 = .ok (.imul, 1) := by decide +kernel
theorem dX6_withMove_19 : decode cX6_withMove 19 = .ok (.lshl, 1) := by decide +kernel
theorem dX6_withMove_20 : decode cX6_withMove 20 = .ok (.lor, 1) := by decide +kernel
theorem dX6_withMove_21 : decode cX6_withMove 21 = .ok (.lreturn, 1) := by decide +kernel
theorem dX6_record_0 : decode cX6_record 0 = .ok (.iload_n 3, 1) := by decide +kernel
theorem dX6_record_1 : decode cX6_record 1 = .ok (.aload_n 0, 1) := by decide +kernel
theorem dX6_record_2 : decode cX6_record 2 = .ok (.getfield 34, 3) := by decide +kernel
theorem dX6_record_5 : decode cX6_record 5 = .ok (.if_icmp .ge 4, 3) := by decide +kernel
theorem dX6_record_8 : decode cX6_record 8 = .ok (.return_, 1) := by decide +kernel
theorem dX6_record_9 : decode cX6_record 9 = .ok (.iload_n 3, 1) := by decide +kernel
theorem dX6_record_10 : decode cX6_record 10 = .ok (.aload_n 0, 1) := by decide +kernel
theorem dX6_record_11 : decode cX6_record 11 = .ok (.getfield 34, 3) := by decide +kernel
theorem dX6_record_14 : decode cX6_record 14 = .ok (.if_icmp .le 13, 3) := by decide +kernel
theorem dX6_record_17 : decode cX6_record 17 = .ok (.aload_n 0, 1) := by decide +kernel
theorem dX6_record_18 : decode cX6_record 18 = .ok (.iload_n 3, 1) := by decide +kernel
theorem dX6_record_19 : decode cX6_record 19 = .ok (.putfield 34, 3) := by decide +kernel
theorem dX6_record_22 : decode cX6_record 22 = .ok (.aload_n 0, 1) := by decide +kernel
theorem dX6_record_23 : decode cX6_record 23 = .ok (.iconst 0, 1) := by decide +kernel
theorem dX6_record_24 : decode cX6_record 24 = .ok (.putfield 30, 3) := by decide +kernel
theorem dX6_record_27 : decode cX6_record 27 = .ok (.aload_n 0, 1) := by decide +kernel
theorem dX6_record_28 : decode cX6_record 28 = .ok (.invokevirtual 89, 3) := by decide +kernel
theorem dX6_record_31 : decode cX6_record 31 = .ok (.aload_n 0, 1) := by decide +kernel
theorem dX6_record_32 : decode cX6_record 32 = .ok (.invokevirtual 92, 3) := by decide +kernel
theorem dX6_record_35 : decode cX6_record 35 = .ok (.istore 4, 2) := by decide +kernel
theorem dX6_record_37 : decode cX6_record 37 = .ok (.iload 4, 2) := by decide +kernel
theorem dX6_record_39 : decode cX6_record 39 = .ok (.aload_n 0, 1) := by decide +kernel
theorem dX6_record_40 : decode cX6_record 40 = .ok (.getfield 30, 3) := by decide +kernel
theorem dX6_record_43 : decode cX6_record 43 = .ok (.if_icmp .ge 51, 3) := by decide +kernel
theorem dX6_record_46 : decode cX6_record 46 = .ok (.aload_n 0, 1) := by decide +kernel
theorem dX6_record_47 : decode cX6_record 47 = .ok (.aload_n 0, 1) := by decide +kernel
theorem dX6_record_48 : decode cX6_record 48 = .ok (.getfield 22, 3) := by decide +kernel
theorem dX6_record_51 : decode cX6_record 51 = .ok (.iload 4, 2) := by decide +kernel
theorem dX6_record_53 : decode cX6_record 53 = .ok (.iaload, 1) := by decide +kernel
theorem dX6_record_54 : decode cX6_record 54 = .ok (.invokevirtual 96, 3) := by decide +kernel
theorem dX6_record_57 : decode cX6_record 57 = .ok (.ifCond .ne 37, 3) := by decide +kernel
theorem dX6_record_60 : decode cX6_record 60 = .ok (.aload_n 0, 1) := by decide +kernel
theorem dX6_record_61 : decode cX6_record 61 = .ok (.getfield 22, 3) := by decide +kernel
theorem dX6_record_64 : decode cX6_record 64 = .ok (.iload 4, 2) := by decide +kernel
theorem dX6_record_66 : decode cX6_record 66 = .ok (.iaload, 1) := by decide +kernel
theorem dX6_record_67 : decode cX6_record 67 = .ok (.iconst 5, 1) := by decide +kernel
theorem dX6_record_68 : decode cX6_record 68 = .ok (.imul, 1) := by decide +kernel
theorem dX6_record_69 : decode cX6_record 69 = .ok (.iconst 4, 1) := by decide +kernel
theorem dX6_record_70 : decode cX6_record 70 = .ok (.iadd, 1) := by decide +kernel
theorem dX6_record_71 : decode cX6_record 71 = .ok (.istore 5, 2) := by decide +kernel
theorem dX6_record_73 : decode cX6_record 73 = .ok (.aload_n 0, 1) := by decide +kernel
theorem dX6_record_74 : decode cX6_record 74 = .ok (.getfield 19, 3) := by decide +kernel
theorem dX6_record_77 : decode cX6_record 77 = .ok (.iload 5, 2) := by decide +kernel
theorem dX6_record_79 : decode cX6_record 79 = .ok (.aload_n 0, 1) := by decide +kernel
theorem dX6_record_80 : decode cX6_record 80 = .ok (.getfield 19, 3) := by decide +kernel
theorem dX6_record_83 : decode cX6_record 83 = .ok (.iload 5, 2) := by decide +kernel
theorem dX6_record_85 : decode cX6_record 85 = .ok (.laload, 1) := by decide +kernel
theorem dX6_record_86 : decode cX6_record 86 = .ok (.lload_n 1, 1) := by decide +kernel
theorem dX6_record_87 : decode cX6_record 87 = .ok (.invokestatic 100, 3) := by decide +kernel
theorem dX6_record_90 : decode cX6_record 90 = .ok (.lastore, 1) := by decide +kernel
theorem dX6_record_91 : decode cX6_record 91 = .ok (.goto 10, 3) := by decide +kernel
theorem dX6_record_94 : decode cX6_record 94 = .ok (.aload_n 0, 1) := by decide +kernel
theorem dX6_record_95 : decode cX6_record 95 = .ok (.iload 4, 2) := by decide +kernel
theorem dX6_record_97 : decode cX6_record 97 = .ok (.lload_n 1, 1) := by decide +kernel
theorem dX6_record_98 : decode cX6_record 98 = .ok (.invokevirtual 103, 3) := by decide +kernel
theorem dX6_record_101 : decode cX6_record 101 = .ok (.return_, 1) := by decide +kernel
theorem dX6_insert_0 : decode cX6_insert 0 = .ok (.aload_n 0, 1) := by decide +kernel
theorem dX6_insert_1 : decode cX6_insert 1 = .ok (.getfield 30, 3) := by decide +kernel
theorem dX6_insert_4 : decode cX6_insert 4 = .ok (.aload_n 0, 1) := by decide +kernel
theorem dX6_insert_5 : decode cX6_insert 5 = .ok (.getfield 22, 3) := by decide +kernel
theorem dX6_insert_8 : decode cX6_insert 8 = .ok (.arraylength, 1) := by decide +kernel
theorem dX6_insert_9 : decode cX6_insert 9 = .ok (.if_icmp .lt 39, 3) := by decide +kernel
theorem dX6_insert_12 : decode cX6_insert 12 = .ok (.aload_n 0, 1) := by decide +kernel
theorem dX6_insert_13 : decode cX6_insert 13 = .ok (.aload_n 0, 1) := by decide +kernel
theorem dX6_insert_14 : decode cX6_insert 14 = .ok (.getfield 22, 3) := by decide +kernel
theorem dX6_insert_17 : decode cX6_insert 17 = .ok (.iconst 2, 1) := by decide +kernel
theorem dX6_insert_18 : decode cX6_insert 18 = .ok (.aload_n 0, 1) := by decide +kernel
theorem dX6_insert_19 : decode cX6_insert 19 = .ok (.getfield 22, 3) := by decide +kernel
theorem dX6_insert_22 : decode cX6_insert 22 = .ok (.arraylength, 1) := by decide +kernel
theorem dX6_insert_23 : decode cX6_insert 23 = .ok (.imul, 1) := by decide +kernel
theorem dX6_insert_24 : decode cX6_insert 24 = .ok (.invokestatic 107, 3) := by decide +kernel
theorem dX6_insert_27 : decode cX6_insert 27 = .ok (.putfield 22, 3) := by decide +kernel
theorem dX6_insert_30 : decode cX6_insert 30 = .ok (.aload_n 0, 1) := by decide +kernel
theorem dX6_insert_31 : decode cX6_insert 31 = .ok (.aload_n 0, 1) := by decide +kernel
theorem dX6_insert_32 : decode cX6_insert 32 = .ok (.getfield 19, 3) := by decide +kernel
theorem dX6_insert_35 : decode cX6_insert 35 = .ok (.iconst 2, 1) := by decide +kernel
theorem dX6_insert_36 : decode cX6_insert 36 = .ok (.aload_n 0, 1) := by decide +kernel
theorem dX6_insert_37 : decode cX6_insert 37 = .ok (.getfield 19, 3) := by decide +kernel
theorem dX6_insert_40 : decode cX6_insert 40 = .ok (.arraylength, 1) := by decide +kernel
theorem dX6_insert_41 : decode cX6_insert 41 = .ok (.imul, 1) := by decide +kernel
theorem dX6_insert_42 : decode cX6_insert 42 = .ok (.invokestatic 113, 3) := by decide +kernel
theorem dX6_insert_45 : decode cX6_insert 45 = .ok (.putfield 19, 3) := by decide +kernel
theorem dX6_insert_48 : decode cX6_insert 48 = .ok (.aload_n 0, 1) := by decide +kernel
theorem dX6_insert_49 : decode cX6_insert 49 = .ok (.getfield 11, 3) := by decide +kernel
theorem dX6_insert_52 : decode cX6_insert 52 = .ok (.iconst 0, 1) := by decide +kernel
theorem dX6_insert_53 : decode cX6_insert 53 = .ok (.aload_n 0, 1) := by decide +kernel
theorem dX6_insert_54 : decode cX6_insert 54 = .ok (.getfield 19, 3) := by decide +kernel
theorem dX6_insert_57 : decode cX6_insert 57 = .ok (.aload_n 0, 1) := by decide +kernel
theorem dX6_insert_58 : decode cX6_insert 58 = .ok (.getfield 30, 3) := by decide +kernel
theorem dX6_insert_61 : decode cX6_insert 61 = .ok (.iconst 5, 1) := by decide +kernel
theorem dX6_insert_62 : decode cX6_insert 62 = .ok (.imul, 1) := by decide +kernel
theorem dX6_insert_63 : decode cX6_insert 63 = .ok (.iconst 4, 1) := by decide +kernel
theorem dX6_insert_64 : decode cX6_insert 64 = .ok (.invokestatic 116, 3) := by decide +kernel
theorem dX6_insert_67 : decode cX6_insert 67 = .ok (.aload_n 0, 1) := by decide +kernel
theorem dX6_insert_68 : decode cX6_insert 68 = .ok (.getfield 19, 3) := by decide +kernel
theorem dX6_insert_71 : decode cX6_insert 71 = .ok (.aload_n 0, 1) := by decide +kernel
theorem dX6_insert_72 : decode cX6_insert 72 = .ok (.getfield 30, 3) := by decide +kernel
theorem dX6_insert_75 : decode cX6_insert 75 = .ok (.iconst 5, 1) := by decide +kernel
theorem dX6_insert_76 : decode cX6_insert 76 = .ok (.imul, 1) := by decide +kernel
theorem dX6_insert_77 : decode cX6_insert 77 = .ok (.iconst 4, 1) := by decide +kernel
theorem dX6_insert_78 : decode cX6_insert 78 = .ok (.iadd, 1) := by decide +kernel
theorem dX6_insert_79 : decode cX6_insert 79 = .ok (.lload_n 2, 1) := by decide +kernel
theorem dX6_insert_80 : decode cX6_insert 80 = .ok (.lastore, 1) := by decide +kernel
theorem dX6_insert_81 : decode cX6_insert 81 = .ok (.aload_n 0, 1) := by decide +kernel
theorem dX6_insert_82 : decode cX6_insert 82 = .ok (.getfield 22, 3) := by decide +kernel
theorem dX6_insert_85 : decode cX6_insert 85 = .ok (.iload_n 1, 1) := by decide +kernel
theorem dX6_insert_86 : decode cX6_insert 86 = .ok (.aload_n 0, 1) := by decide +kernel
theorem dX6_insert_87 : decode cX6_insert 87 = .ok (.getfield 22, 3) := by decide +kernel
theorem dX6_insert_90 : decode cX6_insert 90 = .ok (.iload_n 1, 1) := by decide +kernel
theorem dX6_insert_91 : decode cX6_insert 91 = .ok (.iconst 1, 1) := by decide +kernel
theorem dX6_insert_92 : decode cX6_insert 92 = .ok (.iadd, 1) := by decide +kernel
theorem dX6_insert_93 : decode cX6_insert 93 = .ok (.aload_n 0, 1) := by decide +kernel
theorem dX6_insert_94 : decode cX6_insert 94 = .ok (.getfield 30, 3) := by decide +kernel
theorem dX6_insert_97 : decode cX6_insert 97 = .ok (.iload_n 1, 1) := by decide +kernel
theorem dX6_insert_98 : decode cX6_insert 98 = .ok (.isub, 1) := by decide +kernel
theorem dX6_insert_99 : decode cX6_insert 99 = .ok (.invokestatic 116, 3) := by decide +kernel
theorem dX6_insert_102 : decode cX6_insert 102 = .ok (.aload_n 0, 1) := by decide +kernel
theorem dX6_insert_103 : decode cX6_insert 103 = .ok (.getfield 22, 3) := by decide +kernel
theorem dX6_insert_106 : decode cX6_insert 106 = .ok (.iload_n 1, 1) := by decide +kernel
theorem dX6_insert_107 : decode cX6_insert 107 = .ok (.aload_n 0, 1) := by decide +kernel
theorem dX6_insert_108 : decode cX6_insert 108 = .ok (.getfield 30, 3) := by decide +kernel
theorem dX6_insert_111 : decode cX6_insert 111 = .ok (.iastore, 1) := by decide +kernel
theorem dX6_insert_112 : decode cX6_insert 112 = .ok (.aload_n 0, 1) := by decide +kernel
theorem dX6_insert_113 : decode cX6_insert 113 = .ok (.dup, 1) := by decide +kernel
theorem dX6_insert_114 : decode cX6_insert 114 = .ok (.getfield 30, 3) := by decide +kernel
theorem dX6_insert_117 : decode cX6_insert 117 = .ok (.iconst 1, 1) := by decide +kernel
theorem dX6_insert_118 : decode cX6_insert 118 = .ok (.iadd, 1) := by decide +kernel
theorem dX6_insert_119 : decode cX6_insert 119 = .ok (.putfield 30, 3) := by decide +kernel
theorem dX6_insert_122 : decode cX6_insert 122 = .ok (.return_, 1) := by decide +kernel
theorem dX6_makeKey_0 : decode cX6_makeKey 0 = .ok (.aload_n 0, 1) := by decide +kernel
theorem dX6_makeKey_1 : decode cX6_makeKey 1 = .ok (.getfield 11, 3) := by decide +kernel
theorem dX6_makeKey_4 : decode cX6_makeKey 4 = .ok (.iconst 0, 1) := by decide +kernel
theorem dX6_makeKey_5 : decode cX6_makeKey 5 = .ok (.aload_n 0, 1) := by decide +kernel
theorem dX6_makeKey_6 : decode cX6_makeKey 6 = .ok (.getfield 26, 3) := by decide +kernel
theorem dX6_makeKey_9 : decode cX6_makeKey 9 = .ok (.aload_n 0, 1) := by decide +kernel
theorem dX6_makeKey_10 : decode cX6_makeKey 10 = .ok (.getfield 42, 3) := by decide +kernel
theorem dX6_makeKey_13 : decode cX6_makeKey 13 = .ok (.bipush 25, 2) := by decide +kernel
theorem dX6_makeKey_15 : decode cX6_makeKey 15 = .ok (.invokevirtual 122, 3) := by decide +kernel
theorem dX6_makeKey_18 : decode cX6_makeKey 18 = .ok (.lastore, 1) := by decide +kernel
theorem dX6_makeKey_19 : decode cX6_makeKey 19 = .ok (.aload_n 0, 1) := by decide +kernel
theorem dX6_makeKey_20 : decode cX6_makeKey 20 = .ok (.getfield 11, 3) := by decide +kernel
theorem dX6_makeKey_23 : decode cX6_makeKey 23 = .ok (.iconst 1, 1) := by decide +kernel
theorem dX6_makeKey_24 : decode cX6_makeKey 24 = .ok (.aload_n 0, 1) := by decide +kernel
theorem dX6_makeKey_25 : decode cX6_makeKey 25 = .ok (.getfield 26, 3) := by decide +kernel
theorem dX6_makeKey_28 : decode cX6_makeKey 28 = .ok (.aload_n 0, 1) := by decide +kernel
theorem dX6_makeKey_29 : decode cX6_makeKey 29 = .ok (.getfield 42, 3) := by decide +kernel
theorem dX6_makeKey_32 : decode cX6_makeKey 32 = .ok (.bipush 12, 2) := by decide +kernel
theorem dX6_makeKey_34 : decode cX6_makeKey 34 = .ok (.invokevirtual 122, 3) := by decide +kernel
theorem dX6_makeKey_37 : decode cX6_makeKey 37 = .ok (.lastore, 1) := by decide +kernel
theorem dX6_makeKey_38 : decode cX6_makeKey 38 = .ok (.aload_n 0, 1) := by decide +kernel
theorem dX6_makeKey_39 : decode cX6_makeKey 39 = .ok (.getfield 11, 3) := by decide +kernel
theorem dX6_makeKey_42 : decode cX6_makeKey 42 = .ok (.iconst 2, 1) := by decide +kernel
theorem dX6_makeKey_43 : decode cX6_makeKey 43 = .ok (.aload_n 0, 1) := by decide +kernel
theorem dX6_makeKey_44 : decode cX6_makeKey 44 = .ok (.getfield 26, 3) := by decide +kernel
theorem dX6_makeKey_47 : decode cX6_makeKey 47 = .ok (.iconst 1, 1) := by decide +kernel
theorem dX6_makeKey_48 : decode cX6_makeKey 48 = .ok (.aload_n 0, 1) := by decide +kernel
theorem dX6_makeKey_49 : decode cX6_makeKey 49 = .ok (.getfield 42, 3) := by decide +kernel
theorem dX6_makeKey_52 : decode cX6_makeKey 52 = .ok (.isub, 1) := by decide +kernel
theorem dX6_makeKey_53 : decode cX6_makeKey 53 = .ok (.bipush 25, 2) := by decide +kernel
theorem dX6_makeKey_55 : decode cX6_makeKey 55 = .ok (.invokevirtual 122, 3) := by decide +kernel
theorem dX6_makeKey_58 : decode cX6_makeKey 58 = .ok (.lastore, 1) := by decide +kernel
theorem dX6_makeKey_59 : decode cX6_makeKey 59 = .ok (.aload_n 0, 1) := by decide +kernel
theorem dX6_makeKey_60 : decode cX6_makeKey 60 = .ok (.getfield 11, 3) := by decide +kernel
theorem dX6_makeKey_63 : decode cX6_makeKey 63 = .ok (.iconst 3, 1) := by decide +kernel
theorem dX6_makeKey_64 : decode cX6_makeKey 64 = .ok (.aload_n 0, 1) := by decide +kernel
theorem dX6_makeKey_65 : decode cX6_makeKey 65 = .ok (.getfield 26, 3) := by decide +kernel
theorem dX6_makeKey_68 : decode cX6_makeKey 68 = .ok (.iconst 1, 1) := by decide +kernel
theorem dX6_makeKey_69 : decode cX6_makeKey 69 = .ok (.aload_n 0, 1) := by decide +kernel
theorem dX6_makeKey_70 : decode cX6_makeKey 70 = .ok (.getfield 42, 3) := by decide +kernel
theorem dX6_makeKey_73 : decode cX6_makeKey 73 = .ok (.isub, 1) := by decide +kernel
theorem dX6_makeKey_74 : decode cX6_makeKey 74 = .ok (.bipush 12, 2) := by decide +kernel
theorem dX6_makeKey_76 : decode cX6_makeKey 76 = .ok (.invokevirtual 122, 3) := by decide +kernel
theorem dX6_makeKey_79 : decode cX6_makeKey 79 = .ok (.lastore, 1) := by decide +kernel
theorem dX6_makeKey_80 : decode cX6_makeKey 80 = .ok (.return_, 1) := by decide +kernel
theorem dX6_placeOfKey_0 : decode cX6_placeOfKey 0 = .ok (.iconst 0, 1) := by decide +kernel
theorem dX6_placeOfKey_1 : decode cX6_placeOfKey 1 = .ok (.istore_n 1, 1) := by decide +kernel
theorem dX6_placeOfKey_2 : decode cX6_placeOfKey 2 = .ok (.aload_n 0, 1) := by decide +kernel
theorem dX6_placeOfKey_3 : decode cX6_placeOfKey 3 = .ok (.getfield 30, 3) := by decide +kernel
theorem dX6_placeOfKey_6 : decode cX6_placeOfKey 6 = .ok (.istore_n 2, 1) := by decide +kernel
theorem dX6_placeOfKey_7 : decode cX6_placeOfKey 7 = .ok (.iconst 0, 1) := by decide +kernel
theorem dX6_placeOfKey_8 : decode cX6_placeOfKey 8 = .ok (.istore_n 3, 1) := by decide +kernel
theorem dX6_placeOfKey_9 : decode cX6_placeOfKey 9 = .ok (.iload_n 3, 1) := by decide +kernel
theorem dX6_placeOfKey_10 : decode cX6_placeOfKey 10 = .ok (.bipush 32, 2) := by decide +kernel
theorem dX6_placeOfKey_12 : decode cX6_placeOfKey 12 = .ok (.if_icmp .ge 66, 3) := by decide +kernel
theorem dX6_placeOfKey_15 : decode cX6_placeOfKey 15 = .ok (.iload_n 1, 1) := by decide +kernel
theorem dX6_placeOfKey_16 : decode cX6_placeOfKey 16 = .ok (.iload_n 2, 1) := by decide +kernel
theorem dX6_placeOfKey_17 : decode cX6_placeOfKey 17 = .ok (.if_icmp .ge 61, 3) := by decide +kernel
theorem dX6_placeOfKey_20 : decode cX6_placeOfKey 20 = .ok (.iload_n 1, 1) := by decide +kernel
theorem dX6_placeOfKey_21 : decode cX6_placeOfKey 21 = .ok (.iload_n 2, 1) := by decide +kernel
theorem dX6_placeOfKey_22 : decode cX6_placeOfKey 22 = .ok (.iadd, 1) := by decide +kernel
theorem dX6_placeOfKey_23 : decode cX6_placeOfKey 23 = .ok (.iconst 1, 1) := by decide +kernel
theorem dX6_placeOfKey_24 : decode cX6_placeOfKey 24 = .ok (.iushr, 1) := by decide +kernel
theorem dX6_placeOfKey_25 : decode cX6_placeOfKey 25 = .ok (.istore 4, 2) := by decide +kernel
theorem dX6_placeOfKey_27 : decode cX6_placeOfKey 27 = .ok (.aload_n 0, 1) := by decide +kernel
theorem dX6_placeOfKey_28 : decode cX6_placeOfKey 28 = .ok (.aload_n 0, 1) := by decide +kernel
theorem dX6_placeOfKey_29 : decode cX6_placeOfKey 29 = .ok (.getfield 22, 3) := by decide +kernel
theorem dX6_placeOfKey_32 : decode cX6_placeOfKey 32 = .ok (.iload 4, 2) := by decide +kernel
theorem dX6_placeOfKey_34 : decode cX6_placeOfKey 34 = .ok (.iaload, 1) := by decide +kernel
theorem dX6_placeOfKey_35 : decode cX6_placeOfKey 35 = .ok (.invokevirtual 96, 3) := by decide +kernel
theorem dX6_placeOfKey_38 : decode cX6_placeOfKey 38 = .ok (.ifCond .ge 9, 3) := by decide +kernel
theorem dX6_placeOfKey_41 : decode cX6_placeOfKey 41 = .ok (.iload 4, 2) := by decide +kernel
theorem dX6_placeOfKey_43 : decode cX6_placeOfKey 43 = .ok (.istore_n 2, 1) := by decide +kernel
theorem dX6_placeOfKey_44 : decode cX6_placeOfKey 44 = .ok (.goto 28, 3) := by decide +kernel
theorem dX6_placeOfKey_47 : decode cX6_placeOfKey 47 = .ok (.aload_n 0, 1) := by decide +kernel
theorem dX6_placeOfKey_48 : decode cX6_placeOfKey 48 = .ok (.aload_n 0, 1) := by decide +kernel
theorem dX6_placeOfKey_49 : decode cX6_placeOfKey 49 = .ok (.getfield 22, 3) := by decide +kernel
theorem dX6_placeOfKey_52 : decode cX6_placeOfKey 52 = .ok (.iload 4, 2) := by decide +kernel
theorem dX6_placeOfKey_54 : decode cX6_placeOfKey 54 = .ok (.iaload, 1) := by decide +kernel
theorem dX6_placeOfKey_55 : decode cX6_placeOfKey 55 = .ok (.invokevirtual 96, 3) := by decide +kernel
theorem dX6_placeOfKey_58 : decode cX6_placeOfKey 58 = .ok (.ifCond .le 11, 3) := by decide +kernel
theorem dX6_placeOfKey_61 : decode cX6_placeOfKey 61 = .ok (.iload 4, 2) := by decide +kernel
theorem dX6_placeOfKey_63 : decode cX6_placeOfKey 63 = .ok (.iconst 1, 1) := by decide +kernel
theorem dX6_placeOfKey_64 : decode cX6_placeOfKey 64 = .ok (.iadd, 1) := by decide +kernel
theorem dX6_placeOfKey_65 : decode cX6_placeOfKey 65 = .ok (.istore_n 1, 1) := by decide +kernel
theorem dX6_placeOfKey_66 : decode cX6_placeOfKey 66 = .ok (.goto 6, 3) := by decide +kernel
theorem dX6_placeOfKey_69 : decode cX6_placeOfKey 69 = .ok (.iload 4, 2) := by decide +kernel
theorem dX6_placeOfKey_71 : decode cX6_placeOfKey 71 = .ok (.ireturn, 1) := by decide +kernel
theorem dX6_placeOfKey_72 : decode cX6_placeOfKey 72 = .ok (.iinc 3 1, 3) := by decide +kernel
theorem dX6_placeOfKey_75 : decode cX6_placeOfKey 75 = .ok (.goto (-66), 3) := by decide +kernel
theorem dX6_placeOfKey_78 : decode cX6_placeOfKey 78 = .ok (.iload_n 1, 1) := by decide +kernel
theorem dX6_placeOfKey_79 : decode cX6_placeOfKey 79 = .ok (.ireturn, 1) := by decide +kernel
theorem dX6_compareKey_0 : decode cX6_compareKey 0 = .ok (.iconst 0, 1) := by decide +kernel
theorem dX6_compareKey_1 : decode cX6_compareKey 1 = .ok (.istore_n 2, 1) := by decide +kernel
theorem dX6_compareKey_2 : decode cX6_compareKey 2 = .ok (.iload_n 2, 1) := by decide +kernel
theorem dX6_compareKey_3 : decode cX6_compareKey 3 = .ok (.iconst 4, 1) := by decide +kernel
theorem dX6_compareKey_4 : decode cX6_compareKey 4 = .ok (.if_icmp .ge 48, 3) := by decide +kernel
theorem dX6_compareKey_7 : decode cX6_compareKey 7 = .ok (.aload_n 0, 1) := by decide +kernel
theorem dX6_compareKey_8 : decode cX6_compareKey 8 = .ok (.getfield 19, 3) := by decide +kernel
theorem dX6_compareKey_11 : decode cX6_compareKey 11 = .ok (.iload_n 1, 1) := by decide +kernel
theorem dX6_compareKey_12 : decode cX6_compareKey 12 = .ok (.iconst 5, 1) := by decide +kernel
theorem dX6_compareKey_13 : decode cX6_compareKey 13 = .ok (.imul, 1) := by decide +kernel
theorem dX6_compareKey_14 : decode cX6_compareKey 14 = .ok (.iload_n 2, 1) := by decide +kernel
theorem dX6_compareKey_15 : decode cX6_compareKey 15 = .ok (.iadd, 1) := by decide +kernel
theorem dX6_compareKey_16 : decode cX6_compareKey 16 = .ok (.laload, 1) := by decide +kernel
theorem dX6_compareKey_17 : decode cX6_compareKey 17 = .ok (.lstore_n 3, 1) := by decide +kernel
theorem dX6_compareKey_18 : decode cX6_compareKey 18 = .ok (.aload_n 0, 1) := by decide +kernel
theorem dX6_compareKey_19 : decode cX6_compareKey 19 = .ok (.getfield 11, 3) := by decide +kernel
theorem dX6_compareKey_22 : decode cX6_compareKey 22 = .ok (.iload_n 2, 1) := by decide +kernel
theorem dX6_compareKey_23 : decode cX6_compareKey 23 = .ok (.laload, 1) := by decide +kernel
theorem dX6_compareKey_24 : decode cX6_compareKey 24 = .ok (.lload_n 3, 1) := by decide +kernel
theorem dX6_compareKey_25 : decode cX6_compareKey 25 = .ok (.lcmp, 1) := by decide +kernel
theorem dX6_compareKey_26 : decode cX6_compareKey 26 = .ok (.ifCond .eq 20, 3) := by decide +kernel
theorem dX6_compareKey_29 : decode cX6_compareKey 29 = .ok (.aload_n 0, 1) := by decide +kernel
theorem dX6_compareKey_30 : decode cX6_compareKey 30 = .ok (.getfield 11, 3) := by decide +kernel
theorem dX6_compareKey_33 : decode cX6_compareKey 33 = .ok (.iload_n 2, 1) := by decide +kernel
theorem dX6_compareKey_34 : decode cX6_compareKey 34 = .ok (.laload, 1) := by decide +kernel
theorem dX6_compareKey_35 : decode cX6_compareKey 35 = .ok (.lload_n 3, 1) := by decide +kernel
theorem dX6_compareKey_36 : decode cX6_compareKey 36 = .ok (.lcmp, 1) := by decide +kernel
theorem dX6_compareKey_37 : decode cX6_compareKey 37 = .ok (.ifCond .le 7, 3) := by decide +kernel
theorem dX6_compareKey_40 : decode cX6_compareKey 40 = .ok (.iconst (-1), 1) := by decide +kernel
theorem dX6_compareKey_41 : decode cX6_compareKey 41 = .ok (.goto 4, 3) := by decide +kernel
theorem dX6_compareKey_44 : decode cX6_compareKey 44 = .ok (.iconst 1, 1) := by decide +kernel
theorem dX6_compareKey_45 : decode cX6_compareKey 45 = .ok (.ireturn, 1) := by decide +kernel
theorem dX6_compareKey_46 : decode cX6_compareKey 46 = .ok (.iinc 2 1, 3) := by decide +kernel
theorem dX6_compareKey_49 : decode cX6_compareKey 49 = .ok (.goto (-47), 3) := by decide +kernel
theorem dX6_compareKey_52 : decode cX6_compareKey 52 = .ok (.iconst 0, 1) := by decide +kernel
theorem dX6_compareKey_53 : decode cX6_compareKey 53 = .ok (.ireturn, 1) := by decide +kernel
theorem dX6_menOf_0 : decode cX6_menOf 0 = .ok (.iload_n 2, 1) := by decide +kernel
theorem dX6_menOf_1 : decode cX6_menOf 1 = .ok (.aload_n 0, 1) := by decide +kernel
theorem dX6_menOf_2 : decode cX6_menOf 2 = .ok (.getfield 42, 3) := by decide +kernel
theorem dX6_menOf_5 : decode cX6_menOf 5 = .ok (.if_icmp .ne 7, 3) := by decide +kernel
theorem dX6_menOf_8 : decode cX6_menOf 8 = .ok (.iconst 0, 1) := by decide +kernel
theorem dX6_menOf_9 : decode cX6_menOf 9 = .ok (.goto 4, 3) := by decide +kernel
theorem dX6_menOf_12 : decode cX6_menOf 12 = .ok (.iconst 2, 1) := by decide +kernel
theorem dX6_menOf_13 : decode cX6_menOf 13 = .ok (.iload_n 3, 1) := by decide +kernel
theorem dX6_menOf_14 : decode cX6_menOf 14 = .ok (.bipush 12, 2) := by decide +kernel
theorem dX6_menOf_16 : decode cX6_menOf 16 = .ok (.if_icmp .le 7, 3) := by decide +kernel
theorem dX6_menOf_19 : decode cX6_menOf 19 = .ok (.iconst 0, 1) := by decide +kernel
theorem dX6_menOf_20 : decode cX6_menOf 20 = .ok (.goto 4, 3) := by decide +kernel
theorem dX6_menOf_23 : decode cX6_menOf 23 = .ok (.iconst 1, 1) := by decide +kernel
theorem dX6_menOf_24 : decode cX6_menOf 24 = .ok (.iadd, 1) := by decide +kernel
theorem dX6_menOf_25 : decode cX6_menOf 25 = .ok (.istore 4, 2) := by decide +kernel
theorem dX6_menOf_27 : decode cX6_menOf 27 = .ok (.iload_n 3, 1) := by decide +kernel
theorem dX6_menOf_28 : decode cX6_menOf 28 = .ok (.bipush 12, 2) := by decide +kernel
theorem dX6_menOf_30 : decode cX6_menOf 30 = .ok (.if_icmp .le 8, 3) := by decide +kernel
theorem dX6_menOf_33 : decode cX6_menOf 33 = .ok (.bipush 13, 2) := by decide +kernel
theorem dX6_menOf_35 : decode cX6_menOf 35 = .ok (.goto 4, 3) := by decide +kernel
theorem dX6_menOf_38 : decode cX6_menOf 38 = .ok (.iconst 0, 1) := by decide +kernel
theorem dX6_menOf_39 : decode cX6_menOf 39 = .ok (.istore 5, 2) := by decide +kernel
theorem dX6_menOf_41 : decode cX6_menOf 41 = .ok (.aload_n 0, 1) := by decide +kernel
theorem dX6_menOf_42 : decode cX6_menOf 42 = .ok (.getfield 19, 3) := by decide +kernel
theorem dX6_menOf_45 : decode cX6_menOf 45 = .ok (.aload_n 0, 1) := by decide +kernel
theorem dX6_menOf_46 : decode cX6_menOf 46 = .ok (.getfield 22, 3) := by decide +kernel
theorem dX6_menOf_49 : decode cX6_menOf 49 = .ok (.iload_n 1, 1) := by decide +kernel
theorem dX6_menOf_50 : decode cX6_menOf 50 = .ok (.iaload, 1) := by decide +kernel
theorem dX6_menOf_51 : decode cX6_menOf 51 = .ok (.iconst 5, 1) := by decide +kernel
theorem dX6_menOf_52 : decode cX6_menOf 52 = .ok (.imul, 1) := by decide +kernel
theorem dX6_menOf_53 : decode cX6_menOf 53 = .ok (.iload 4, 2) := by decide +kernel
theorem dX6_menOf_55 : decode cX6_menOf 55 = .ok (.iadd, 1) := by decide +kernel
theorem dX6_menOf_56 : decode cX6_menOf 56 = .ok (.laload, 1) := by decide +kernel
theorem dX6_menOf_57 : decode cX6_menOf 57 = .ok (.iconst 4, 1) := by decide +kernel
theorem dX6_menOf_58 : decode cX6_menOf 58 = .ok (.iload_n 3, 1) := by decide +kernel
theorem dX6_menOf_59 : decode cX6_menOf 59 = .ok (.iload 5, 2) := by decide +kernel
theorem dX6_menOf_61 : decode cX6_menOf 61 = .ok (.isub, 1) := by decide +kernel
theorem dX6_menOf_62 : decode cX6_menOf 62 = .ok (.imul, 1) := by decide +kernel
theorem dX6_menOf_63 : decode cX6_menOf 63 = .ok (.lushr, 1) := by decide +kernel
theorem dX6_menOf_64 : decode cX6_menOf 64 = .ok (.l2i, 1) := by decide +kernel
theorem dX6_menOf_65 : decode cX6_menOf 65 = .ok (.bipush 15, 2) := by decide +kernel
theorem dX6_menOf_67 : decode cX6_menOf 67 = .ok (.iand, 1) := by decide +kernel
theorem dX6_menOf_68 : decode cX6_menOf 68 = .ok (.ireturn, 1) := by decide +kernel
theorem dX6_moveOf_0 : decode cX6_moveOf 0 = .ok (.iload_n 2, 1) := by decide +kernel
theorem dX6_moveOf_1 : decode cX6_moveOf 1 = .ok (.ifCond .lt 8, 3) := by decide +kernel
theorem dX6_moveOf_4 : decode cX6_moveOf 4 = .ok (.iload_n 2, 1) := by decide +kernel
theorem dX6_moveOf_5 : decode cX6_moveOf 5 = .ok (.iconst 4, 1) := by decide +kernel
theorem dX6_moveOf_6 : decode cX6_moveOf 6 = .ok (.if_icmp .lt 5, 3) := by decide +kernel
theorem dX6_moveOf_9 : decode cX6_moveOf 9 = .ok (.iconst (-1), 1) := by decide +kernel
theorem dX6_moveOf_10 : decode cX6_moveOf 10 = .ok (.ireturn, 1) := by decide +kernel
theorem dX6_moveOf_11 : decode cX6_moveOf 11 = .ok (.aload_n 0, 1) := by decide +kernel
theorem dX6_moveOf_12 : decode cX6_moveOf 12 = .ok (.getfield 19, 3) := by decide +kernel
theorem dX6_moveOf_15 : decode cX6_moveOf 15 = .ok (.aload_n 0, 1) := by decide +kernel
theorem dX6_moveOf_16 : decode cX6_moveOf 16 = .ok (.getfield 22, 3) := by decide +kernel
theorem dX6_moveOf_19 : decode cX6_moveOf 19 = .ok (.iload_n 1, 1) := by decide +kernel
theorem dX6_moveOf_20 : decode cX6_moveOf 20 = .ok (.iaload, 1) := by decide +kernel
theorem dX6_moveOf_21 : decode cX6_moveOf 21 = .ok (.iconst 5, 1) := by decide +kernel
theorem dX6_moveOf_22 : decode cX6_moveOf 22 = .ok (.imul, 1) := by decide +kernel
theorem dX6_moveOf_23 : decode cX6_moveOf 23 = .ok (.iconst 4, 1) := by decide +kernel
theorem dX6_moveOf_24 : decode cX6_moveOf 24 = .ok (.iadd, 1) := by decide +kernel
theorem dX6_moveOf_25 : decode cX6_moveOf 25 = .ok (.laload, 1) := by decide +kernel
theorem dX6_moveOf_26 : decode cX6_moveOf 26 = .ok (.bipush 10, 2) := by decide +kernel
theorem dX6_moveOf_28 : decode cX6_moveOf 28 = .ok (.iconst 3, 1) := by decide +kernel
theorem dX6_moveOf_29 : decode cX6_moveOf 29 = .ok (.iload_n 2, 1) := by decide +kernel
theorem dX6_moveOf_30 : decode cX6_moveOf 30 = .ok (.isub, 1) := by decide +kernel
theorem dX6_moveOf_31 : decode cX6_moveOf 31 = .ok (.imul, 1) := by decide +kernel
theorem dX6_moveOf_32 : decode cX6_moveOf 32 = .ok (.lushr, 1) := by decide +kernel
theorem dX6_moveOf_33 : decode cX6_moveOf 33 = .ok (.l2i, 1) := by decide +kernel
theorem dX6_moveOf_34 : decode cX6_moveOf 34 = .ok (.sipush 1023, 3) := by decide +kernel
theorem dX6_moveOf_37 : decode cX6_moveOf 37 = .ok (.iand, 1) := by decide +kernel
theorem dX6_moveOf_38 : decode cX6_moveOf 38 = .ok (.istore_n 3, 1) := by decide +kernel
theorem dX6_moveOf_39 : decode cX6_moveOf 39 = .ok (.iload_n 3, 1) := by decide +kernel
theorem dX6_moveOf_40 : decode cX6_moveOf 40 = .ok (.ifCond .ne 7, 3) := by decide +kernel
theorem dX6_moveOf_43 : decode cX6_moveOf 43 = .ok (.iconst (-1), 1) := by decide +kernel
theorem dX6_moveOf_44 : decode cX6_moveOf 44 = .ok (.goto 4, 3) := by decide +kernel
theorem dX6_moveOf_47 : decode cX6_moveOf 47 = .ok (.iload_n 3, 1) := by decide +kernel
theorem dX6_moveOf_48 : decode cX6_moveOf 48 = .ok (.ireturn, 1) := by decide +kernel
theorem dX6_putOnBoard_0 : decode cX6_putOnBoard 0 = .ok (.aload_n 0, 1) := by decide +kernel
theorem dX6_putOnBoard_1 : decode cX6_putOnBoard 1 = .ok (.getfield 22, 3) := by decide +kernel
theorem dX6_putOnBoard_4 : decode cX6_putOnBoard 4 = .ok (.iload_n 1, 1) := by decide +kernel
theorem dX6_putOnBoard_5 : decode cX6_putOnBoard 5 = .ok (.iaload, 1) := by decide +kernel
theorem dX6_putOnBoard_6 : decode cX6_putOnBoard 6 = .ok (.iconst 5, 1) := by decide +kernel
theorem dX6_putOnBoard_7 : decode cX6_putOnBoard 7 = .ok (.imul, 1) := by decide +kernel
theorem dX6_putOnBoard_8 : decode cX6_putOnBoard 8 = .ok (.istore_n 2, 1) := by decide +kernel
theorem dX6_putOnBoard_9 : decode cX6_putOnBoard 9 = .ok (.aload_n 0, 1) := by decide +kernel
theorem dX6_putOnBoard_10 : decode cX6_putOnBoard 10 = .ok (.getfield 26, 3) := by decide +kernel
theorem dX6_putOnBoard_13 : decode cX6_putOnBoard 13 = .ok (.aload_n 0, 1) := by decide +kernel
theorem dX6_putOnBoard_14 : decode cX6_putOnBoard 14 = .ok (.getfield 42, 3) := by decide +kernel
theorem dX6_putOnBoard_17 : decode cX6_putOnBoard 17 = .ok (.bipush 25, 2) := by decide +kernel
theorem dX6_putOnBoard_19 : decode cX6_putOnBoard 19 = .ok (.aload_n 0, 1) := by decide +kernel
theorem dX6_putOnBoard_20 : decode cX6_putOnBoard 20 = .ok (.getfield 19, 3) := by decide +kernel
theorem dX6_putOnBoard_23 : decode cX6_putOnBoard 23 = .ok (.iload_n 2, 1) := by decide +kernel
theorem dX6_putOnBoard_24 : decode cX6_putOnBoard 24 = .ok (.laload, 1) := by decide +kernel
theorem dX6_putOnBoard_25 : decode cX6_putOnBoard 25 = .ok (.invokevirtual 126, 3) := by decide +kernel
theorem dX6_putOnBoard_28 : decode cX6_putOnBoard 28 = .ok (.aload_n 0, 1) := by decide +kernel
theorem dX6_putOnBoard_29 : decode cX6_putOnBoard 29 = .ok (.getfield 26, 3) := by decide +kernel
theorem dX6_putOnBoard_32 : decode cX6_putOnBoard 32 = .ok (.aload_n 0, 1) := by decide +kernel
theorem dX6_putOnBoard_33 : decode cX6_putOnBoard 33 = .ok (.getfield 42, 3) := by decide +kernel
theorem dX6_putOnBoard_36 : decode cX6_putOnBoard 36 = .ok (.bipush 12, 2) := by decide +kernel
theorem dX6_putOnBoard_38 : decode cX6_putOnBoard 38 = .ok (.aload_n 0, 1) := by decide +kernel
theorem dX6_putOnBoard_39 : decode cX6_putOnBoard 39 = .ok (.getfield 19, 3) := by decide +kernel
theorem dX6_putOnBoard_42 : decode cX6_putOnBoard 42 = .ok (.iload_n 2, 1) := by decide +kernel
theorem dX6_putOnBoard_43 : decode cX6_putOnBoard 43 = .ok (.iconst 1, 1) := by decide +kernel
theorem dX6_putOnBoard_44 : decode cX6_putOnBoard 44 = .ok (.iadd, 1) := by decide +kernel
theorem dX6_putOnBoard_45 : decode cX6_putOnBoard 45 = .ok (.laload, 1) := by decide +kernel
theorem dX6_putOnBoard_46 : decode cX6_putOnBoard 46 = .ok (.invokevirtual 126, 3) := by decide +kernel
theorem dX6_putOnBoard_49 : decode cX6_putOnBoard 49 = .ok (.aload_n 0, 1) := by decide +kernel
theorem dX6_putOnBoard_50 : decode cX6_putOnBoard 50 = .ok (.getfield 26, 3) := by decide +kernel
theorem dX6_putOnBoard_53 : decode cX6_putOnBoard 53 = .ok (.iconst 1, 1) := by decide +kernel
theorem dX6_putOnBoard_54 : decode cX6_putOnBoard 54 = .ok (.aload_n 0, 1) := by decide +kernel
theorem dX6_putOnBoard_55 : decode cX6_putOnBoard 55 = .ok (.getfield 42, 3) := by decide +kernel
theorem dX6_putOnBoard_58 : decode cX6_putOnBoard 58 = .ok (.isub, 1) := by decide +kernel
theorem dX6_putOnBoard_59 : decode cX6_putOnBoard 59 = .ok (.bipush 25, 2) := by decide +kernel
theorem dX6_putOnBoard_61 : decode cX6_putOnBoard 61 = .ok (.aload_n 0, 1) := by decide +kernel
theorem dX6_putOnBoard_62 : decode cX6_putOnBoard 62 = .ok (.getfield 19, 3) := by decide +kernel
theorem dX6_putOnBoard_65 : decode cX6_putOnBoard 65 = .ok (.iload_n 2, 1) := by decide +kernel
theorem dX6_putOnBoard_66 : decode cX6_putOnBoard 66 = .ok (.iconst 2, 1) := by decide +kernel
theorem dX6_putOnBoard_67 : decode cX6_putOnBoard 67 = .ok (.iadd, 1) := by decide +kernel
theorem dX6_putOnBoard_68 : decode cX6_putOnBoard 68 = .ok (.laload, 1) := by decide +kernel
theorem dX6_putOnBoard_69 : decode cX6_putOnBoard 69 = .ok (.invokevirtual 126, 3) := by decide +kernel
theorem dX6_putOnBoard_72 : decode cX6_putOnBoard 72 = .ok (.aload_n 0, 1) := by decide +kernel
theorem dX6_putOnBoard_73 : decode cX6_putOnBoard 73 = .ok (.getfield 26, 3) := by decide +kernel
theorem dX6_putOnBoard_76 : decode cX6_putOnBoard 76 = .ok (.iconst 1, 1) := by decide +kernel
theorem dX6_putOnBoard_77 : decode cX6_putOnBoard 77 = .ok (.aload_n 0, 1) := by decide +kernel
theorem dX6_putOnBoard_78 : decode cX6_putOnBoard 78 = .ok (.getfield 42, 3) := by decide +kernel
theorem dX6_putOnBoard_81 : decode cX6_putOnBoard 81 = .ok (.isub, 1) := by decide +kernel
theorem dX6_putOnBoard_82 : decode cX6_putOnBoard 82 = .ok (.bipush 12, 2) := by decide +kernel
theorem dX6_putOnBoard_84 : decode cX6_putOnBoard 84 = .ok (.aload_n 0, 1) := by decide +kernel
theorem dX6_putOnBoard_85 : decode cX6_putOnBoard 85 = .ok (.getfield 19, 3) := by decide +kernel
theorem dX6_putOnBoard_88 : decode cX6_putOnBoard 88 = .ok (.iload_n 2, 1) := by decide +kernel
theorem dX6_putOnBoard_89 : decode cX6_putOnBoard 89 = .ok (.iconst 3, 1) := by decide +kernel
theorem dX6_putOnBoard_90 : decode cX6_putOnBoard 90 = .ok (.iadd, 1) := by decide +kernel
theorem dX6_putOnBoard_91 : decode cX6_putOnBoard 91 = .ok (.laload, 1) := by decide +kernel
theorem dX6_putOnBoard_92 : decode cX6_putOnBoard 92 = .ok (.invokevirtual 126, 3) := by decide +kernel
theorem dX6_putOnBoard_95 : decode cX6_putOnBoard 95 = .ok (.aload_n 0, 1) := by decide +kernel
theorem dX6_putOnBoard_96 : decode cX6_putOnBoard 96 = .ok (.getfield 26, 3) := by decide +kernel
theorem dX6_putOnBoard_99 : decode cX6_putOnBoard 99 = .ok (.iconst 1, 1) := by decide +kernel
theorem dX6_putOnBoard_100 : decode cX6_putOnBoard 100 = .ok (.aload_n 0, 1) := by decide +kernel
theorem dX6_putOnBoard_101 : decode cX6_putOnBoard 101 = .ok (.getfield 42, 3) := by decide +kernel
theorem dX6_putOnBoard_104 : decode cX6_putOnBoard 104 = .ok (.isub, 1) := by decide +kernel
theorem dX6_putOnBoard_105 : decode cX6_putOnBoard 105 = .ok (.putfield 37, 3) := by decide +kernel
theorem dX6_putOnBoard_108 : decode cX6_putOnBoard 108 = .ok (.return_, 1) := by decide +kernel
theorem dX6_numberOf_0 : decode cX6_numberOf 0 = .ok (.aload_n 0, 1) := by decide +kernel
theorem dX6_numberOf_1 : decode cX6_numberOf 1 = .ok (.aload_n 1, 1) := by decide +kernel
theorem dX6_numberOf_2 : decode cX6_numberOf 2 = .ok (.iload_n 2, 1) := by decide +kernel
theorem dX6_numberOf_3 : decode cX6_numberOf 3 = .ok (.iload_n 3, 1) := by decide +kernel
theorem dX6_numberOf_4 : decode cX6_numberOf 4 = .ok (.invokevirtual 130, 3) := by decide +kernel
theorem dX6_numberOf_7 : decode cX6_numberOf 7 = .ok (.istore 4, 2) := by decide +kernel
theorem dX6_numberOf_9 : decode cX6_numberOf 9 = .ok (.iload 4, 2) := by decide +kernel
theorem dX6_numberOf_11 : decode cX6_numberOf 11 = .ok (.iconst (-1), 1) := by decide +kernel
theorem dX6_numberOf_12 : decode cX6_numberOf 12 = .ok (.if_icmp .ne 18, 3) := by decide +kernel
theorem dX6_numberOf_15 : decode cX6_numberOf 15 = .ok (.iload_n 2, 1) := by decide +kernel
theorem dX6_numberOf_16 : decode cX6_numberOf 16 = .ok (.iload_n 3, 1) := by decide +kernel
theorem dX6_numberOf_17 : decode cX6_numberOf 17 = .ok (.if_icmp .eq 13, 3) := by decide +kernel
theorem dX6_numberOf_20 : decode cX6_numberOf 20 = .ok (.aload_n 0, 1) := by decide +kernel
theorem dX6_numberOf_21 : decode cX6_numberOf 21 = .ok (.aload_n 1, 1) := by decide +kernel
theorem dX6_numberOf_22 : decode cX6_numberOf 22 = .ok (.iload_n 3, 1) := by decide +kernel
theorem dX6_numberOf_23 : decode cX6_numberOf 23 = .ok (.iload_n 2, 1) := by decide +kernel
theorem dX6_numberOf_24 : decode cX6_numberOf 24 = .ok (.invokevirtual 130, 3) := by decide +kernel
theorem dX6_numberOf_27 : decode cX6_numberOf 27 = .ok (.goto 5, 3) := by decide +kernel
theorem dX6_numberOf_30 : decode cX6_numberOf 30 = .ok (.iload 4, 2) := by decide +kernel
theorem dX6_numberOf_32 : decode cX6_numberOf 32 = .ok (.ireturn, 1) := by decide +kernel
theorem dX6_numberBy_0 : decode cX6_numberBy 0 = .ok (.iload_n 2, 1) := by decide +kernel
theorem dX6_numberBy_1 : decode cX6_numberBy 1 = .ok (.iload_n 3, 1) := by decide +kernel
theorem dX6_numberBy_2 : decode cX6_numberBy 2 = .ok (.if_icmp .ne 7, 3) := by decide +kernel
theorem dX6_numberBy_5 : decode cX6_numberBy 5 = .ok (.iconst 4, 1) := by decide +kernel
theorem dX6_numberBy_6 : decode cX6_numberBy 6 = .ok (.goto 4, 3) := by decide +kernel
theorem dX6_numberBy_9 : decode cX6_numberBy 9 = .ok (.iconst 2, 1) := by decide +kernel
theorem dX6_numberBy_10 : decode cX6_numberBy 10 = .ok (.istore 4, 2) := by decide +kernel
theorem dX6_numberBy_12 : decode cX6_numberBy 12 = .ok (.aload_n 1, 1) := by decide +kernel
theorem dX6_numberBy_13 : decode cX6_numberBy 13 = .ok (.getfield 134, 3) := by decide +kernel
theorem dX6_numberBy_16 : decode cX6_numberBy 16 = .ok (.iload 4, 2) := by decide +kernel
theorem dX6_numberBy_18 : decode cX6_numberBy 18 = .ok (.if_icmp .le 5, 3) := by decide +kernel
theorem dX6_numberBy_21 : decode cX6_numberBy 21 = .ok (.iconst (-1), 1) := by decide +kernel
theorem dX6_numberBy_22 : decode cX6_numberBy 22 = .ok (.ireturn, 1) := by decide +kernel
theorem dX6_numberBy_23 : decode cX6_numberBy 23 = .ok (.iconst 0, 1) := by decide +kernel
theorem dX6_numberBy_24 : decode cX6_numberBy 24 = .ok (.istore 5, 2) := by decide +kernel
theorem dX6_numberBy_26 : decode cX6_numberBy 26 = .ok (.iload 5, 2) := by decide +kernel
theorem dX6_numberBy_28 : decode cX6_numberBy 28 = .ok (.aload_n 1, 1) := by decide +kernel
theorem dX6_numberBy_29 : decode cX6_numberBy 29 = .ok (.getfield 134, 3) := by decide +kernel
theorem dX6_numberBy_32 : decode cX6_numberBy 32 = .ok (.if_icmp .ge 29, 3) := by decide +kernel
theorem dX6_numberBy_35 : decode cX6_numberBy 35 = .ok (.aload_n 0, 1) := by decide +kernel
theorem dX6_numberBy_36 : decode cX6_numberBy 36 = .ok (.aload_n 1, 1) := by decide +kernel
theorem dX6_numberBy_37 : decode cX6_numberBy 37 = .ok (.iload 5, 2) := by decide +kernel
theorem dX6_numberBy_39 : decode cX6_numberBy 39 = .ok (.iload 5, 2) := by decide +kernel
theorem dX6_numberBy_41 : decode cX6_numberBy 41 = .ok (.ifCond .ne 7, 3) := by decide +kernel
theorem dX6_numberBy_44 : decode cX6_numberBy 44 = .ok (.iload_n 2, 1) := by decide +kernel
theorem dX6_numberBy_45 : decode cX6_numberBy 45 = .ok (.goto 4, 3) := by decide +kernel
theorem dX6_numberBy_48 : decode cX6_numberBy 48 = .ok (.iload_n 3, 1) := by decide +kernel
theorem dX6_numberBy_49 : decode cX6_numberBy 49 = .ok (.invokevirtual 137, 3) := by decide +kernel
theorem dX6_numberBy_52 : decode cX6_numberBy 52 = .ok (.ifCond .eq 9, 3) := by decide +kernel
theorem dX6_numberBy_55 : decode cX6_numberBy 55 = .ok (.iinc 5 1, 3) := by decide +kernel
theorem dX6_numberBy_58 : decode cX6_numberBy 58 = .ok (.goto (-32), 3) := by decide +kernel
theorem dX6_numberBy_61 : decode cX6_numberBy 61 = .ok (.iconst (-1), 1) := by decide +kernel
theorem dX6_numberBy_62 : decode cX6_numberBy 62 = .ok (.istore 6, 2) := by decide +kernel
theorem dX6_numberBy_64 : decode cX6_numberBy 64 = .ok (.iload 5, 2) := by decide +kernel
theorem dX6_numberBy_66 : decode cX6_numberBy 66 = .ok (.iconst 1, 1) := by decide +kernel
theorem dX6_numberBy_67 : decode cX6_numberBy 67 = .ok (.if_icmp .ne 12, 3) := by decide +kernel
theorem dX6_numberBy_70 : decode cX6_numberBy 70 = .ok (.iload_n 2, 1) := by decide +kernel
theorem dX6_numberBy_71 : decode cX6_numberBy 71 = .ok (.iload_n 3, 1) := by decide +kernel
theorem dX6_numberBy_72 : decode cX6_numberBy 72 = .ok (.if_icmp .le 7, 3) := by decide +kernel
theorem dX6_numberBy_75 : decode cX6_numberBy 75 = .ok (.iconst 1, 1) := by decide +kernel
theorem dX6_numberBy_76 : decode cX6_numberBy 76 = .ok (.goto 4, 3) := by decide +kernel
theorem dX6_numberBy_79 : decode cX6_numberBy 79 = .ok (.iconst 0, 1) := by decide +kernel
theorem dX6_numberBy_80 : decode cX6_numberBy 80 = .ok (.istore 7, 2) := by decide +kernel
theorem dX6_numberBy_82 : decode cX6_numberBy 82 = .ok (.iload 5, 2) := by decide +kernel
theorem dX6_numberBy_84 : decode cX6_numberBy 84 = .ok (.aload_n 1, 1) := by decide +kernel
theorem dX6_numberBy_85 : decode cX6_numberBy 85 = .ok (.getfield 134, 3) := by decide +kernel
theorem dX6_numberBy_88 : decode cX6_numberBy 88 = .ok (.if_icmp .ne 32, 3) := by decide +kernel
theorem dX6_numberBy_91 : decode cX6_numberBy 91 = .ok (.iconst 2, 1) := by decide +kernel
theorem dX6_numberBy_92 : decode cX6_numberBy 92 = .ok (.iload 5, 2) := by decide +kernel
theorem dX6_numberBy_94 : decode cX6_numberBy 94 = .ok (.imul, 1) := by decide +kernel
theorem dX6_numberBy_95 : decode cX6_numberBy 95 = .ok (.iload 7, 2) := by decide +kernel
theorem dX6_numberBy_97 : decode cX6_numberBy 97 = .ok (.iadd, 1) := by decide +kernel
theorem dX6_numberBy_98 : decode cX6_numberBy 98 = .ok (.aload_n 0, 1) := by decide +kernel
theorem dX6_numberBy_99 : decode cX6_numberBy 99 = .ok (.getfield 34, 3) := by decide +kernel
theorem dX6_numberBy_102 : decode cX6_numberBy 102 = .ok (.if_icmp .ne 18, 3) := by decide +kernel
theorem dX6_numberBy_105 : decode cX6_numberBy 105 = .ok (.aload_n 0, 1) := by decide +kernel
theorem dX6_numberBy_106 : decode cX6_numberBy 106 = .ok (.invokevirtual 89, 3) := by decide +kernel
theorem dX6_numberBy_109 : decode cX6_numberBy 109 = .ok (.aload_n 0, 1) := by decide +kernel
theorem dX6_numberBy_110 : decode cX6_numberBy 110 = .ok (.invokevirtual 92, 3) := by decide +kernel
theorem dX6_numberBy_113 : decode cX6_numberBy 113 = .ok (.istore 6, 2) := by decide +kernel
theorem dX6_numberBy_115 : decode cX6_numberBy 115 = .ok (.aload_n 0, 1) := by decide +kernel
theorem dX6_numberBy_116 : decode cX6_numberBy 116 = .ok (.aload_n 1, 1) := by decide +kernel
theorem dX6_numberBy_117 : decode cX6_numberBy 117 = .ok (.invokevirtual 141, 3) := by decide +kernel
theorem dX6_numberBy_120 : decode cX6_numberBy 120 = .ok (.iload 5, 2) := by decide +kernel
theorem dX6_numberBy_122 : decode cX6_numberBy 122 = .ok (.iconst 1, 1) := by decide +kernel
theorem dX6_numberBy_123 : decode cX6_numberBy 123 = .ok (.isub, 1) := by decide +kernel
theorem dX6_numberBy_124 : decode cX6_numberBy 124 = .ok (.istore 8, 2) := by decide +kernel
theorem dX6_numberBy_126 : decode cX6_numberBy 126 = .ok (.iload 8, 2) := by decide +kernel
theorem dX6_numberBy_128 : decode cX6_numberBy 128 = .ok (.ifCond .lt 37, 3) := by decide +kernel
theorem dX6_numberBy_131 : decode cX6_numberBy 131 = .ok (.aload_n 0, 1) := by decide +kernel
theorem dX6_numberBy_132 : decode cX6_numberBy 132 = .ok (.getfield 26, 3) := by decide +kernel
theorem dX6_numberBy_135 : decode cX6_numberBy 135 = .ok (.aload_n 1, 1) := by decide +kernel
theorem dX6_numberBy_136 : decode cX6_numberBy 136 = .ok (.getfield 145, 3) := by decide +kernel
theorem dX6_numberBy_139 : decode cX6_numberBy 139 = .ok (.iload 8, 2) := by decide +kernel
theorem dX6_numberBy_141 : decode cX6_numberBy 141 = .ok (.iaload, 1) := by decide +kernel
theorem dX6_numberBy_142 : decode cX6_numberBy 142 = .ok (.aload_n 1, 1) := by decide +kernel
theorem dX6_numberBy_143 : decode cX6_numberBy 143 = .ok (.getfield 148, 3) := by decide +kernel
theorem dX6_numberBy_146 : decode cX6_numberBy 146 = .ok (.iload 8, 2) := by decide +kernel
theorem dX6_numberBy_148 : decode cX6_numberBy 148 = .ok (.iaload, 1) := by decide +kernel
theorem dX6_numberBy_149 : decode cX6_numberBy 149 = .ok (.aload_n 0, 1) := by decide +kernel
theorem dX6_numberBy_150 : decode cX6_numberBy 150 = .ok (.getfield 15, 3) := by decide +kernel
theorem dX6_numberBy_153 : decode cX6_numberBy 153 = .ok (.iload 8, 2) := by decide +kernel
theorem dX6_numberBy_155 : decode cX6_numberBy 155 = .ok (.baload, 1) := by decide +kernel
theorem dX6_numberBy_156 : decode cX6_numberBy 156 = .ok (.invokevirtual 81, 3) := by decide +kernel
theorem dX6_numberBy_159 : decode cX6_numberBy 159 = .ok (.iinc 8 (-1), 3) := by decide +kernel
theorem dX6_numberBy_162 : decode cX6_numberBy 162 = .ok (.goto (-36), 3) := by decide +kernel
theorem dX6_numberBy_165 : decode cX6_numberBy 165 = .ok (.iload 6, 2) := by decide +kernel
theorem dX6_numberBy_167 : decode cX6_numberBy 167 = .ok (.ireturn, 1) := by decide +kernel
theorem dX6_goAsTold_0 : decode cX6_goAsTold 0 = .ok (.aload_n 1, 1) := by decide +kernel
theorem dX6_goAsTold_1 : decode cX6_goAsTold 1 = .ok (.getfield 145, 3) := by decide +kernel
theorem dX6_goAsTold_4 : decode cX6_goAsTold 4 = .ok (.iload_n 2, 1) := by decide +kernel
theorem dX6_goAsTold_5 : decode cX6_goAsTold 5 = .ok (.iaload, 1) := by decide +kernel
theorem dX6_goAsTold_6 : decode cX6_goAsTold 6 = .ok (.istore 4, 2) := by decide +kernel
theorem dX6_goAsTold_8 : decode cX6_goAsTold 8 = .ok (.aload_n 1, 1) := by decide +kernel
theorem dX6_goAsTold_9 : decode cX6_goAsTold 9 = .ok (.getfield 148, 3) := by decide +kernel
theorem dX6_goAsTold_12 : decode cX6_goAsTold 12 = .ok (.iload_n 2, 1) := by decide +kernel
theorem dX6_goAsTold_13 : decode cX6_goAsTold 13 = .ok (.iaload, 1) := by decide +kernel
theorem dX6_goAsTold_14 : decode cX6_goAsTold 14 = .ok (.istore 5, 2) := by decide +kernel
theorem dX6_goAsTold_16 : decode cX6_goAsTold 16 = .ok (.iload 4, 2) := by decide +kernel
theorem dX6_goAsTold_18 : decode cX6_goAsTold 18 = .ok (.iload_n 3, 1) := by decide +kernel
theorem dX6_goAsTold_19 : decode cX6_goAsTold 19 = .ok (.isub, 1) := by decide +kernel
theorem dX6_goAsTold_20 : decode cX6_goAsTold 20 = .ok (.iconst 0, 1) := by decide +kernel
theorem dX6_goAsTold_21 : decode cX6_goAsTold 21 = .ok (.invokestatic 57, 3) := by decide +kernel
theorem dX6_goAsTold_24 : decode cX6_goAsTold 24 = .ok (.iload 5, 2) := by decide +kernel
theorem dX6_goAsTold_26 : decode cX6_goAsTold 26 = .ok (.if_icmp .ne 16, 3) := by decide +kernel
theorem dX6_goAsTold_29 : decode cX6_goAsTold 29 = .ok (.aload_n 0, 1) := by decide +kernel
theorem dX6_goAsTold_30 : decode cX6_goAsTold 30 = .ok (.getfield 26, 3) := by decide +kernel
theorem dX6_goAsTold_33 : decode cX6_goAsTold 33 = .ok (.iload 4, 2) := by decide +kernel
theorem dX6_goAsTold_35 : decode cX6_goAsTold 35 = .ok (.iload_n 3, 1) := by decide +kernel
theorem dX6_goAsTold_36 : decode cX6_goAsTold 36 = .ok (.invokevirtual 70, 3) := by decide +kernel
theorem dX6_goAsTold_39 : decode cX6_goAsTold 39 = .ok (.ifCond .ne 5, 3) := by decide +kernel
theorem dX6_goAsTold_42 : decode cX6_goAsTold 42 = .ok (.iconst 0, 1) := by decide +kernel
theorem dX6_goAsTold_43 : decode cX6_goAsTold 43 = .ok (.ireturn, 1) := by decide +kernel
theorem dX6_goAsTold_44 : decode cX6_goAsTold 44 = .ok (.aload_n 0, 1) := by decide +kernel
theorem dX6_goAsTold_45 : decode cX6_goAsTold 45 = .ok (.getfield 15, 3) := by decide +kernel
theorem dX6_goAsTold_48 : decode cX6_goAsTold 48 = .ok (.iload_n 2, 1) := by decide +kernel
theorem dX6_goAsTold_49 : decode cX6_goAsTold 49 = .ok (.aload_n 0, 1) := by decide +kernel
theorem dX6_goAsTold_50 : decode cX6_goAsTold 50 = .ok (.getfield 26, 3) := by decide +kernel
theorem dX6_goAsTold_53 : decode cX6_goAsTold 53 = .ok (.iload 4, 2) := by decide +kernel
theorem dX6_goAsTold_55 : decode cX6_goAsTold 55 = .ok (.iload 5, 2) := by decide +kernel
theorem dX6_goAsTold_57 : decode cX6_goAsTold 57 = .ok (.invokevirtual 74, 3) := by decide +kernel
theorem dX6_goAsTold_60 : decode cX6_goAsTold 60 = .ok (.bastore, 1) := by decide +kernel
theorem dX6_goAsTold_61 : decode cX6_goAsTold 61 = .ok (.iconst 1, 1) := by decide +kernel
theorem dX6_goAsTold_62 : decode cX6_goAsTold 62 = .ok (.ireturn, 1) := by decide +kernel
theorem dX6_compareStars_0 : decode cX6_compareStars 0 = .ok (.aload_n 0, 1) := by decide +kernel
theorem dX6_compareStars_1 : decode cX6_compareStars 1 = .ok (.iconst 1, 1) := by decide +kernel
theorem dX6_compareStars_2 : decode cX6_compareStars 2 = .ok (.putfield 151, 3) := by decide +kernel
theorem dX6_compareStars_5 : decode cX6_compareStars 5 = .ok (.iconst 0, 1) := by decide +kernel
theorem dX6_compareStars_6 : decode cX6_compareStars 6 = .ok (.istore_n 2, 1) := by decide +kernel
theorem dX6_compareStars_7 : decode cX6_compareStars 7 = .ok (.iload_n 2, 1) := by decide +kernel
theorem dX6_compareStars_8 : decode cX6_compareStars 8 = .ok (.aload_n 1, 1) := by decide +kernel
theorem dX6_compareStars_9 : decode cX6_compareStars 9 = .ok (.getfield 134, 3) := by decide +kernel
theorem dX6_compareStars_12 : decode cX6_compareStars 12 = .ok (.if_icmp .ge 40, 3) := by decide +kernel
theorem dX6_compareStars_15 : decode cX6_compareStars 15 = .ok (.aload_n 0, 1) := by decide +kernel
theorem dX6_compareStars_16 : decode cX6_compareStars 16 = .ok (.aload_n 0, 1) := by decide +kernel
theorem dX6_compareStars_17 : decode cX6_compareStars 17 = .ok (.getfield 151, 3) := by decide +kernel
theorem dX6_compareStars_20 : decode cX6_compareStars 20 = .ok (.ifCond .eq 22, 3) := by decide +kernel
theorem dX6_compareStars_23 : decode cX6_compareStars 23 = .ok (.aload_n 1, 1) := by decide +kernel
theorem dX6_compareStars_24 : decode cX6_compareStars 24 = .ok (.getfield 155, 3) := by decide +kernel
theorem dX6_compareStars_27 : decode cX6_compareStars 27 = .ok (.iload_n 2, 1) := by decide +kernel
theorem dX6_compareStars_28 : decode cX6_compareStars 28 = .ok (.baload, 1) := by decide +kernel
theorem dX6_compareStars_29 : decode cX6_compareStars 29 = .ok (.aload_n 0, 1) := by decide +kernel
theorem dX6_compareStars_30 : decode cX6_compareStars 30 = .ok (.getfield 15, 3) := by decide +kernel
theorem dX6_compareStars_33 : decode cX6_compareStars 33 = .ok (.iload_n 2, 1) := by decide +kernel
theorem dX6_compareStars_34 : decode cX6_compareStars 34 = .ok (.baload, 1) := by decide +kernel
theorem dX6_compareStars_35 : decode cX6_compareStars 35 = .ok (.if_icmp .ne 7, 3) := by decide +kernel
theorem dX6_compareStars_38 : decode cX6_compareStars 38 = .ok (.iconst 1, 1) := by decide +kernel
theorem dX6_compareStars_39 : decode cX6_compareStars 39 = .ok (.goto 4, 3) := by decide +kernel
theorem dX6_compareStars_42 : decode cX6_compareStars 42 = .ok (.iconst 0, 1) := by decide +kernel
theorem dX6_compareStars_43 : decode cX6_compareStars 43 = .ok (.putfield 151, 3) := by decide +kernel
theorem dX6_compareStars_46 : decode cX6_compareStars 46 = .ok (.iinc 2 1, 3) := by decide +kernel
theorem dX6_compareStars_49 : decode cX6_compareStars 49 = .ok (.goto (-42), 3) := by decide +kernel
theorem dX6_compareStars_52 : decode cX6_compareStars 52 = .ok (.return_, 1) := by decide +kernel
theorem dX7_init_0 : decode cX7_init 0 = .ok (.aload_n 0, 1) := by decide +kernel
theorem dX7_init_1 : decode cX7_init 1 = .ok (.invokespecial 5, 3) := by decide +kernel
theorem dX7_init_4 : decode cX7_init 4 = .ok (.aload_n 0, 1) := by decide +kernel
theorem dX7_init_5 : decode cX7_init 5 = .ok (.sipush 1152, 3) := by decide +kernel
theorem dX7_init_8 : decode cX7_init 8 = .ok (.newarray .long, 2) := by decide +kernel
theorem dX7_init_10 : decode cX7_init 10 = .ok (.putfield 13, 3) := by decide +kernel
theorem dX7_init_13 : decode cX7_init 13 = .ok (.return_, 1) := by decide +kernel
theorem dX8_init_0 : decode cX8_init 0 = .ok (.aload_n 0, 1) := by decide +kernel
theorem dX8_init_1 : decode cX8_init 1 = .ok (.invokespecial 7, 3) := by decide +kernel
theorem dX8_init_4 : decode cX8_init 4 = .ok (.aload_n 0, 1) := by decide +kernel
theorem dX8_init_5 : decode cX8_init 5 = .ok (.sipush 848, 3) := by decide +kernel
theorem dX8_init_8 : decode cX8_init 8 = .ok (.anewarray 3, 3) := by decide +kernel
theorem dX8_init_11 : decode cX8_init 11 = .ok (.putfield 13, 3) := by decide +kernel
theorem dX8_init_14 : decode cX8_init 14 = .ok (.aload_n 0, 1) := by decide +kernel
theorem dX8_init_15 : decode cX8_init 15 = .ok (.bipush 112, 2) := by decide +kernel
theorem dX8_init_17 : decode cX8_init 17 = .ok (.newarray .int, 2) := by decide +kernel
theorem dX8_init_19 : decode cX8_init 19 = .ok (.putfield 17, 3) := by decide +kernel
theorem dX8_init_22 : decode cX8_init 22 = .ok (.aload_n 0, 1) := by decide +kernel
theorem dX8_init_23 : decode cX8_init 23 = .ok (.bipush 13, 2) := by decide +kernel
theorem dX8_init_25 : decode cX8_init 25 = .ok (.newarray .long, 2) := by decide +kernel
theorem dX8_init_27 : decode cX8_init 27 = .ok (.putfield 21, 3) := by decide +kernel
theorem dX8_init_30 : decode cX8_init 30 = .ok (.aload_n 0, 1) := by decide +kernel
theorem dX8_init_31 : decode cX8_init 31 = .ok (.bipush 12, 2) := by decide +kernel
theorem dX8_init_33 : decode cX8_init 33 = .ok (.newarray .long, 2) := by decide +kernel
theorem dX8_init_35 : decode cX8_init 35 = .ok (.putfield 25, 3) := by decide +kernel
theorem dX8_init_38 : decode cX8_init 38 = .ok (.aload_n 0, 1) := by decide +kernel
theorem dX8_init_39 : decode cX8_init 39 = .ok (.new 28, 3) := by decide +kernel
theorem dX8_init_42 : decode cX8_init 42 = .ok (.dup, 1) := by decide +kernel
theorem dX8_init_43 : decode cX8_init 43 = .ok (.invokespecial 30, 3) := by decide +kernel
theorem dX8_init_46 : decode cX8_init 46 = .ok (.putfield 31, 3) := by decide +kernel
theorem dX8_init_49 : decode cX8_init 49 = .ok (.aload_n 0, 1) := by decide +kernel
theorem dX8_init_50 : decode cX8_init 50 = .ok (.new 28, 3) := by decide +kernel
theorem dX8_init_53 : decode cX8_init 53 = .ok (.dup, 1) := by decide +kernel
theorem dX8_init_54 : decode cX8_init 54 = .ok (.invokespecial 30, 3) := by decide +kernel
theorem dX8_init_57 : decode cX8_init 57 = .ok (.putfield 35, 3) := by decide +kernel
theorem dX8_init_60 : decode cX8_init 60 = .ok (.aload_n 0, 1) := by decide +kernel
theorem dX8_init_61 : decode cX8_init 61 = .ok (.new 28, 3) := by decide +kernel
theorem dX8_init_64 : decode cX8_init 64 = .ok (.dup, 1) := by decide +kernel
theorem dX8_init_65 : decode cX8_init 65 = .ok (.invokespecial 30, 3) := by decide +kernel
theorem dX8_init_68 : decode cX8_init 68 = .ok (.putfield 38, 3) := by decide +kernel
theorem dX8_init_71 : decode cX8_init 71 = .ok (.iconst 0, 1) := by decide +kernel
theorem dX8_init_72 : decode cX8_init 72 = .ok (.istore_n 1, 1) := by decide +kernel
theorem dX8_init_73 : decode cX8_init 73 = .ok (.iload_n 1, 1) := by decide +kernel
theorem dX8_init_74 : decode cX8_init 74 = .ok (.bipush 16, 2) := by decide +kernel
theorem dX8_init_76 : decode cX8_init 76 = .ok (.if_icmp .ge 16, 3) := by decide +kernel
theorem dX8_init_79 : decode cX8_init 79 = .ok (.aload_n 0, 1) := by decide +kernel
theorem dX8_init_80 : decode cX8_init 80 = .ok (.getfield 17, 3) := by decide +kernel
theorem dX8_init_83 : decode cX8_init 83 = .ok (.iload_n 1, 1) := by decide +kernel
theorem dX8_init_84 : decode cX8_init 84 = .ok (.iconst 1, 1) := by decide +kernel
theorem dX8_init_85 : decode cX8_init 85 = .ok (.iastore, 1) := by decide +kernel
theorem dX8_init_86 : decode cX8_init 86 = .ok (.iinc 1 1, 3) := by decide +kernel
theorem dX8_init_89 : decode cX8_init 89 = .ok (.goto (-16), 3) := by decide +kernel
theorem dX8_init_92 : decode cX8_init 92 = .ok (.iconst 1, 1) := by decide +kernel
theorem dX8_init_93 : decode cX8_init 93 = .ok (.istore_n 1, 1) := by decide +kernel
theorem dX8_init_94 : decode cX8_init 94 = .ok (.iload_n 1, 1) := by decide +kernel
theorem dX8_init_95 : decode cX8_init 95 = .ok (.bipush 6, 2) := by decide +kernel
theorem dX8_init_97 : decode cX8_init 97 = .ok (.if_icmp .gt 61, 3) := by decide +kernel
theorem dX8_init_100 : decode cX8_init 100 = .ok (.iconst 1, 1) := by decide +kernel
theorem dX8_init_101 : decode cX8_init 101 = .ok (.istore_n 2, 1) := by decide +kernel
theorem dX8_init_102 : decode cX8_init 102 = .ok (.iload_n 2, 1) := by decide +kernel
theorem dX8_init_103 : decode cX8_init 103 = .ok (.bipush 16, 2) := by decide +kernel
theorem dX8_init_105 : decode cX8_init 105 = .ok (.if_icmp .ge 47, 3) := by decide +kernel
theorem dX8_init_108 : decode cX8_init 108 = .ok (.aload_n 0, 1) := by decide +kernel
theorem dX8_init_109 : decode cX8_init 109 = .ok (.getfield 17, 3) := by decide +kernel
theorem dX8_init_112 : decode cX8_init 112 = .ok (.bipush 16, 2) := by decide +kernel
theorem dX8_init_114 : decode cX8_init 114 = .ok (.iload_n 1, 1) := by decide +kernel
theorem dX8_init_115 : decode cX8_init 115 = .ok (.imul, 1) := by decide +kernel
theorem dX8_init_116 : decode cX8_init 116 = .ok (.iload_n 2, 1) := by decide +kernel
theorem dX8_init_117 : decode cX8_init 117 = .ok (.iadd, 1) := by decide +kernel
theorem dX8_init_118 : decode cX8_init 118 = .ok (.aload_n 0, 1) := by decide +kernel
theorem dX8_init_119 : decode cX8_init 119 = .ok (.getfield 17, 3) := by decide +kernel
theorem dX8_init_122 : decode cX8_init 122 = .ok (.bipush 16, 2) := by decide +kernel
theorem dX8_init_124 : decode cX8_init 124 = .ok (.iload_n 1, 1) := by decide +kernel
theorem dX8_init_125 : decode cX8_init 125 = .ok (.imul, 1) := by decide +kernel
theorem dX8_init_126 : decode cX8_init 126 = .ok (.iload_n 2, 1) := by decide +kernel
theorem dX8_init_127 : decode cX8_init 127 = .ok (.iadd, 1) := by decide +kernel
theorem dX8_init_128 : decode cX8_init 128 = .ok (.iconst 1, 1) := by decide +kernel
theorem dX8_init_129 : decode cX8_init 129 = .ok (.isub, 1) := by decide +kernel
theorem dX8_init_130 : decode cX8_init 130 = .ok (.iaload, 1) := by decide +kernel
theorem dX8_init_131 : decode cX8_init 131 = .ok (.aload_n 0, 1) := by decide +kernel
theorem dX8_init_132 : decode cX8_init 132 = .ok (.getfield 17, 3) := by decide +kernel
theorem dX8_init_135 : decode cX8_init 135 = .ok (.bipush 16, 2) := by decide +kernel
theorem dX8_init_137 : decode cX8_init 137 = .ok (.iload_n 1, 1) := by decide +kernel
theorem dX8_init_138 : decode cX8_init 138 = .ok (.iconst 1, 1) := by decide +kernel
theorem dX8_init_139 : decode cX8_init 139 = .ok (.isub, 1) := by decide +kernel
theorem dX8_init_140 : decode cX8_init 140 = .ok (.imul, 1) := by decide +kernel
theorem dX8_init_141 : decode cX8_init 141 = .ok (.iload_n 2, 1) := by decide +kernel
theorem dX8_init_142 : decode cX8_init 142 = .ok (.iadd, 1) := by decide +kernel
theorem dX8_init_143 : decode cX8_init 143 = .ok (.iaload, 1) := by decide +kernel
theorem dX8_init_144 : decode cX8_init 144 = .ok (.iadd, 1) := by decide +kernel
theorem dX8_init_145 : decode cX8_init 145 = .ok (.iastore, 1) := by decide +kernel
theorem dX8_init_146 : decode cX8_init 146 = .ok (.iinc 2 1, 3) := by decide +kernel
theorem dX8_init_149 : decode cX8_init 149 = .ok (.goto (-47), 3) := by decide +kernel
theorem dX8_init_152 : decode cX8_init 152 = .ok (.iinc 1 1, 3) := by decide +kernel
theorem dX8_init_155 : decode cX8_init 155 = .ok (.goto (-61), 3) := by decide +kernel
theorem dX8_init_158 : decode cX8_init 158 = .ok (.aload_n 0, 1) := by decide +kernel
theorem dX8_init_159 : decode cX8_init 159 = .ok (.getfield 21, 3) := by decide +kernel
theorem dX8_init_162 : decode cX8_init 162 = .ok (.iconst 0, 1) := by decide +kernel
theorem dX8_init_163 : decode cX8_init 163 = .ok (.lconst 1, 1) := by decide +kernel
theorem dX8_init_164 : decode cX8_init 164 = .ok (.lastore, 1) := by decide +kernel
theorem dX8_init_165 : decode cX8_init 165 = .ok (.iconst 1, 1) := by decide +kernel
theorem dX8_init_166 : decode cX8_init 166 = .ok (.istore_n 1, 1) := by decide +kernel
theorem dX8_init_167 : decode cX8_init 167 = .ok (.iload_n 1, 1) := by decide +kernel
theorem dX8_init_168 : decode cX8_init 168 = .ok (.bipush 12, 2) := by decide +kernel
theorem dX8_init_170 : decode cX8_init 170 = .ok (.if_icmp .gt 27, 3) := by decide +kernel
theorem dX8_init_173 : decode cX8_init 173 = .ok (.aload_n 0, 1) := by decide +kernel
theorem dX8_init_174 : decode cX8_init 174 = .ok (.getfield 21, 3) := by decide +kernel
theorem dX8_init_177 : decode cX8_init 177 = .ok (.iload_n 1, 1) := by decide +kernel
theorem dX8_init_178 : decode cX8_init 178 = .ok (.ldc2_w 41, 3) := by decide +kernel
theorem dX8_init_181 : decode cX8_init 181 = .ok (.aload_n 0, 1) := by decide +kernel
theorem dX8_init_182 : decode cX8_init 182 = .ok (.getfield 21, 3) := by decide +kernel
theorem dX8_init_185 : decode cX8_init 185 = .ok (.iload_n 1, 1) := by decide +kernel
theorem dX8_init_186 : decode cX8_init 186 = .ok (.iconst 1, 1) := by decide +kernel
theorem dX8_init_187 : decode cX8_init 187 = .ok (.isub, 1) := by decide +kernel
theorem dX8_init_188 : decode cX8_init 188 = .ok (.laload, 1) := by decide +kernel
theorem dX8_init_189 : decode cX8_init 189 = .ok (.lmul, 1) := by decide +kernel
theorem dX8_init_190 : decode cX8_init 190 = .ok (.lastore, 1) := by decide +kernel
theorem dX8_init_191 : decode cX8_init 191 = .ok (.iinc 1 1, 3) := by decide +kernel
theorem dX8_init_194 : decode cX8_init 194 = .ok (.goto (-27), 3) := by decide +kernel
theorem dX8_init_197 : decode cX8_init 197 = .ok (.aload_n 0, 1) := by decide +kernel
theorem dX8_init_198 : decode cX8_init 198 = .ok (.getfield 31, 3) := by decide +kernel
theorem dX8_init_201 : decode cX8_init 201 = .ok (.lconst 1, 1) := by decide +kernel
theorem dX8_init_202 : decode cX8_init 202 = .ok (.invokevirtual 43, 3) := by decide +kernel
theorem dX8_init_205 : decode cX8_init 205 = .ok (.iconst 0, 1) := by decide +kernel
theorem dX8_init_206 : decode cX8_init 206 = .ok (.istore_n 1, 1) := by decide +kernel
theorem dX8_init_207 : decode cX8_init 207 = .ok (.iload_n 1, 1) := by decide +kernel
theorem dX8_init_208 : decode cX8_init 208 = .ok (.bipush 32, 2) := by decide +kernel
theorem dX8_init_210 : decode cX8_init 210 = .ok (.if_icmp .ge 18, 3) := by decide +kernel
theorem dX8_init_213 : decode cX8_init 213 = .ok (.aload_n 0, 1) := by decide +kernel
theorem dX8_init_214 : decode cX8_init 214 = .ok (.getfield 31, 3) := by decide +kernel
theorem dX8_init_217 : decode cX8_init 217 = .ok (.bipush 36, 2) := by decide +kernel
theorem dX8_init_219 : decode cX8_init 219 = .ok (.invokevirtual 47, 3) := by decide +kernel
theorem dX8_init_222 : decode cX8_init 222 = .ok (.iinc 1 1, 3) := by decide +kernel
theorem dX8_init_225 : decode cX8_init 225 = .ok (.goto (-18), 3) := by decide +kernel
theorem dX8_init_228 : decode cX8_init 228 = .ok (.return_, 1) := by decide +kernel
theorem dX8_isStand_0 : decode cX8_isStand 0 = .ok (.iload_n 0, 1) := by decide +kernel
theorem dX8_isStand_1 : decode cX8_isStand 1 = .ok (.ifCond .lt 24, 3) := by decide +kernel
theorem dX8_isStand_4 : decode cX8_isStand 4 = .ok (.iload_n 0, 1) := by decide +kernel
theorem dX8_isStand_5 : decode cX8_isStand 5 = .ok (.bipush 24, 2) := by decide +kernel
theorem dX8_isStand_7 : decode cX8_isStand 7 = .ok (.ishr, 1) := by decide +kernel
theorem dX8_isStand_8 : decode cX8_isStand 8 = .ok (.ifCond .ne 17, 3) := by decide +kernel
theorem dX8_isStand_11 : decode cX8_isStand 11 = .ok (.iload_n 0, 1) := by decide +kernel
theorem dX8_isStand_12 : decode cX8_isStand 12 = .ok (.iconst 1, 1) := by decide +kernel
theorem dX8_isStand_13 : decode cX8_isStand 13 = .ok (.invokestatic 51, 3) := by decide +kernel
theorem dX8_isStand_16 : decode cX8_isStand 16 = .ok (.bipush 15, 2) := by decide +kernel
theorem dX8_isStand_18 : decode cX8_isStand 18 = .ok (.if_icmp .gt 7, 3) := by decide +kernel
theorem dX8_isStand_21 : decode cX8_isStand 21 = .ok (.iconst 1, 1) := by decide +kernel
theorem dX8_isStand_22 : decode cX8_isStand 22 = .ok (.goto 4, 3) := by decide +kernel
theorem dX8_isStand_25 : decode cX8_isStand 25 = .ok (.iconst 0, 1) := by decide +kernel
theorem dX8_isStand_26 : decode cX8_isStand 26 = .ok (.ireturn, 1) := by decide +kernel
theorem dX8_pips_0 : decode cX8_pips 0 = .ok (.iconst 0, 1) := by decide +kernel
theorem dX8_pips_1 : decode cX8_pips 1 = .ok (.istore_n 1, 1) := by decide +kernel
theorem dX8_pips_2 : decode cX8_pips 2 = .ok (.iconst 1, 1) := by decide +kernel
theorem dX8_pips_3 : decode cX8_pips 3 = .ok (.istore_n 2, 1) := by decide +kernel
theorem dX8_pips_4 : decode cX8_pips 4 = .ok (.iload_n 2, 1) := by decide +kernel
theorem dX8_pips_5 : decode cX8_pips 5 = .ok (.bipush 6, 2) := by decide +kernel
theorem dX8_pips_7 : decode cX8_pips 7 = .ok (.if_icmp .gt 17, 3) := by decide +kernel
theorem dX8_pips_10 : decode cX8_pips 10 = .ok (.iload_n 1, 1) := by decide +kernel
theorem dX8_pips_11 : decode cX8_pips 11 = .ok (.iload_n 0, 1) := by decide +kernel
theorem dX8_pips_12 : decode cX8_pips 12 = .ok (.iload_n 2, 1) := by decide +kernel
theorem dX8_pips_13 : decode cX8_pips 13 = .ok (.invokestatic 51, 3) := by decide +kernel
theorem dX8_pips_16 : decode cX8_pips 16 = .ok (.iadd, 1) := by decide +kernel
theorem dX8_pips_17 : decode cX8_pips 17 = .ok (.istore_n 1, 1) := by decide +kernel
theorem dX8_pips_18 : decode cX8_pips 18 = .ok (.iinc 2 1, 3) := by decide +kernel
theorem dX8_pips_21 : decode cX8_pips 21 = .ok (.goto (-17), 3) := by decide +kernel
theorem dX8_pips_24 : decode cX8_pips 24 = .ok (.iload_n 1, 1) := by decide +kernel
theorem dX8_pips_25 : decode cX8_pips 25 = .ok (.ireturn, 1) := by decide +kernel
theorem dX8_menFrom_0 : decode cX8_menFrom 0 = .ok (.iconst 0, 1) := by decide +kernel
theorem dX8_menFrom_1 : decode cX8_menFrom 1 = .ok (.istore_n 2, 1) := by decide +kernel
theorem dX8_menFrom_2 : decode cX8_menFrom 2 = .ok (.iload_n 1, 1) := by decide +kernel
theorem dX8_menFrom_3 : decode cX8_menFrom 3 = .ok (.istore_n 3, 1) := by decide +kernel
theorem dX8_menFrom_4 : decode cX8_menFrom 4 = .ok (.iload_n 3, 1) := by decide +kernel
theorem dX8_menFrom_5 : decode cX8_menFrom 5 = .ok (.bipush 6, 2) := by decide +kernel
theorem dX8_menFrom_7 : decode cX8_menFrom 7 = .ok (.if_icmp .gt 22, 3) := by decide +kernel
theorem dX8_menFrom_10 : decode cX8_menFrom 10 = .ok (.iload_n 2, 1) := by decide +kernel
theorem dX8_menFrom_11 : decode cX8_menFrom 11 = .ok (.iload_n 0, 1) := by decide +kernel
theorem dX8_menFrom_12 : decode cX8_menFrom 12 = .ok (.iconst 4, 1) := by decide +kernel
theorem dX8_menFrom_13 : decode cX8_menFrom 13 = .ok (.iload_n 3, 1) := by decide +kernel
theorem dX8_menFrom_14 : decode cX8_menFrom 14 = .ok (.iconst 1, 1) := by decide +kernel
theorem dX8_menFrom_15 : decode cX8_menFrom 15 = .ok (.isub, 1) := by decide +kernel
theorem dX8_menFrom_16 : decode cX8_menFrom 16 = .ok (.imul, 1) := by decide +kernel
theorem dX8_menFrom_17 : decode cX8_menFrom 17 = .ok (.ishr, 1) := by decide +kernel
theorem dX8_menFrom_18 : decode cX8_menFrom 18 = .ok (.bipush 15, 2) := by decide +kernel
theorem dX8_menFrom_20 : decode cX8_menFrom 20 = .ok (.iand, 1) := by decide +kernel
theorem dX8_menFrom_21 : decode cX8_menFrom 21 = .ok (.iadd, 1) := by decide +kernel
theorem dX8_menFrom_22 : decode cX8_menFrom 22 = .ok (.istore_n 2, 1) := by decide +kernel
theorem dX8_menFrom_23 : decode cX8_menFrom 23 = .ok (.iinc 3 1, 3) := by decide +kernel
theorem dX8_menFrom_26 : decode cX8_menFrom 26 = .ok (.goto (-22), 3) := by decide +kernel
theorem dX8_menFrom_29 : decode cX8_menFrom 29 = .ok (.iload_n 2, 1) := by decide +kernel
theorem dX8_menFrom_30 : decode cX8_menFrom 30 = .ok (.ireturn, 1) := by decide +kernel
theorem dX8_howMany_0 : decode cX8_howMany 0 = .ok (.iload_n 2, 1) := by decide +kernel
theorem dX8_howMany_1 : decode cX8_howMany 1 = .ok (.ifCond .ne 5, 3) := by decide +kernel
theorem dX8_howMany_4 : decode cX8_howMany 4 = .ok (.iconst 1, 1) := by decide +kernel
theorem dX8_howMany_5 : decode cX8_howMany 5 = .ok (.ireturn, 1) := by decide +kernel
theorem dX8_howMany_6 : decode cX8_howMany 6 = .ok (.iload_n 0, 1) := by decide +kernel
theorem dX8_howMany_7 : decode cX8_howMany 7 = .ok (.iconst 1, 1) := by decide +kernel
theorem dX8_howMany_8 : decode cX8_howMany 8 = .ok (.if_icmp .lt 10, 3) := by decide +kernel
theorem dX8_howMany_11 : decode cX8_howMany 11 = .ok (.iload_n 0, 1) := by decide +kernel
theorem dX8_howMany_12 : decode cX8_howMany 12 = .ok (.iload_n 1, 1) := by decide +kernel
theorem dX8_howMany_13 : decode cX8_howMany 13 = .ok (.imul, 1) := by decide +kernel
theorem dX8_howMany_14 : decode cX8_howMany 14 = .ok (.iload_n 2, 1) := by decide +kernel
theorem dX8_howMany_15 : decode cX8_howMany 15 = .ok (.if_icmp .ge 5, 3) := by decide +kernel
theorem dX8_howMany_18 : decode cX8_howMany 18 = .ok (.iconst 0, 1) := by decide +kernel
theorem dX8_howMany_19 : decode cX8_howMany 19 = .ok (.ireturn, 1) := by decide +kernel
theorem dX8_howMany_20 : decode cX8_howMany 20 = .ok (.iload_n 0, 1) := by decide +kernel
theorem dX8_howMany_21 : decode cX8_howMany 21 = .ok (.iconst 1, 1) := by decide +kernel
