theorem dX10_set_23 : decode cX10_set 23 = .ok (.iconst 1, 1) := by decide +kernel
theorem dX10_set_24 : decode cX10_set 24 = .ok (.lload_n 1, 1) := by decide +kernel
theorem dX10_set_25 : decode cX10_set 25 = .ok (.bipush 31, 2) := by decide +kernel
theorem dX10_set_27 : decode cX10_set 27 = .ok (.lushr, 1) := by decide +kernel
theorem dX10_set_28 : decode cX10_set 28 = .ok (.ldc2_w 19, 3) := by decide +kernel
theorem dX10_set_31 : decode cX10_set 31 = .ok (.land, 1) := by decide +kernel
theorem dX10_set_32 : decode cX10_set 32 = .ok (.lastore, 1) := by decide +kernel
theorem dX10_set_33 : decode cX10_set 33 = .ok (.aload_n 0, 1) := by decide +kernel
theorem dX10_set_34 : decode cX10_set 34 = .ok (.getfield 9, 3) := by decide +kernel
theorem dX10_set_37 : decode cX10_set 37 = .ok (.iconst 2, 1) := by decide +kernel
theorem dX10_set_38 : decode cX10_set 38 = .ok (.lload_n 1, 1) := by decide +kernel
theorem dX10_set_39 : decode cX10_set 39 = .ok (.bipush 62, 2) := by decide +kernel
theorem dX10_set_41 : decode cX10_set 41 = .ok (.lushr, 1) := by decide +kernel
theorem dX10_set_42 : decode cX10_set 42 = .ok (.lastore, 1) := by decide +kernel
theorem dX10_set_43 : decode cX10_set 43 = .ok (.return_, 1) := by decide +kernel
theorem dX10_isZero_0 : decode cX10_isZero 0 = .ok (.iconst 0, 1) := by decide +kernel
theorem dX10_isZero_1 : decode cX10_isZero 1 = .ok (.istore_n 1, 1) := by decide +kernel
theorem dX10_isZero_2 : decode cX10_isZero 2 = .ok (.iload_n 1, 1) := by decide +kernel
theorem dX10_isZero_3 : decode cX10_isZero 3 = .ok (.bipush 6, 2) := by decide +kernel
theorem dX10_isZero_5 : decode cX10_isZero 5 = .ok (.if_icmp .ge 22, 3) := by decide +kernel
theorem dX10_isZero_8 : decode cX10_isZero 8 = .ok (.aload_n 0, 1) := by decide +kernel
theorem dX10_isZero_9 : decode cX10_isZero 9 = .ok (.getfield 9, 3) := by decide +kernel
theorem dX10_isZero_12 : decode cX10_isZero 12 = .ok (.iload_n 1, 1) := by decide +kernel
theorem dX10_isZero_13 : decode cX10_isZero 13 = .ok (.laload, 1) := by decide +kernel
theorem dX10_isZero_14 : decode cX10_isZero 14 = .ok (.lconst 0, 1) := by decide +kernel
theorem dX10_isZero_15 : decode cX10_isZero 15 = .ok (.lcmp, 1) := by decide +kernel
theorem dX10_isZero_16 : decode cX10_isZero 16 = .ok (.ifCond .eq 5, 3) := by decide +kernel
theorem dX10_isZero_19 : decode cX10_isZero 19 = .ok (.iconst 0, 1) := by decide +kernel
theorem dX10_isZero_20 : decode cX10_isZero 20 = .ok (.ireturn, 1) := by decide +kernel
theorem dX10_isZero_21 : decode cX10_isZero 21 = .ok (.iinc 1 1, 3) := by decide +kernel
theorem dX10_isZero_24 : decode cX10_isZero 24 = .ok (.goto (-22), 3) := by decide +kernel
theorem dX10_isZero_27 : decode cX10_isZero 27 = .ok (.iconst 1, 1) := by decide +kernel
theorem dX10_isZero_28 : decode cX10_isZero 28 = .ok (.ireturn, 1) := by decide +kernel
theorem dX10_isOne_0 : decode cX10_isOne 0 = .ok (.iconst 1, 1) := by decide +kernel
theorem dX10_isOne_1 : decode cX10_isOne 1 = .ok (.istore_n 1, 1) := by decide +kernel
theorem dX10_isOne_2 : decode cX10_isOne 2 = .ok (.iload_n 1, 1) := by decide +kernel
theorem dX10_isOne_3 : decode cX10_isOne 3 = .ok (.bipush 6, 2) := by decide +kernel
theorem dX10_isOne_5 : decode cX10_isOne 5 = .ok (.if_icmp .ge 22, 3) := by decide +kernel
theorem dX10_isOne_8 : decode cX10_isOne 8 = .ok (.aload_n 0, 1) := by decide +kernel
theorem dX10_isOne_9 : decode cX10_isOne 9 = .ok (.getfield 9, 3) := by decide +kernel
theorem dX10_isOne_12 : decode cX10_isOne 12 = .ok (.iload_n 1, 1) := by decide +kernel
theorem dX10_isOne_13 : decode cX10_isOne 13 = .ok (.laload, 1) := by decide +kernel
theorem dX10_isOne_14 : decode cX10_isOne 14 = .ok (.lconst 0, 1) := by decide +kernel
theorem dX10_isOne_15 : decode cX10_isOne 15 = .ok (.lcmp, 1) := by decide +kernel
theorem dX10_isOne_16 : decode cX10_isOne 16 = .ok (.ifCond .eq 5, 3) := by decide +kernel
theorem dX10_isOne_19 : decode cX10_isOne 19 = .ok (.iconst 0, 1) := by decide +kernel
theorem dX10_isOne_20 : decode cX10_isOne 20 = .ok (.ireturn, 1) := by decide +kernel
theorem dX10_isOne_21 : decode cX10_isOne 21 = .ok (.iinc 1 1, 3) := by decide +kernel
theorem dX10_isOne_24 : decode cX10_isOne 24 = .ok (.goto (-22), 3) := by decide +kernel
theorem dX10_isOne_27 : decode cX10_isOne 27 = .ok (.aload_n 0, 1) := by decide +kernel
theorem dX10_isOne_28 : decode cX10_isOne 28 = .ok (.getfield 9, 3) := by decide +kernel
theorem dX10_isOne_31 : decode cX10_isOne 31 = .ok (.iconst 0, 1) := by decide +kernel
theorem dX10_isOne_32 : decode cX10_isOne 32 = .ok (.laload, 1) := by decide +kernel
theorem dX10_isOne_33 : decode cX10_isOne 33 = .ok (.lconst 1, 1) := by decide +kernel
theorem dX10_isOne_34 : decode cX10_isOne 34 = .ok (.lcmp, 1) := by decide +kernel
theorem dX10_isOne_35 : decode cX10_isOne 35 = .ok (.ifCond .ne 7, 3) := by decide +kernel
theorem dX10_isOne_38 : decode cX10_isOne 38 = .ok (.iconst 1, 1) := by decide +kernel
theorem dX10_isOne_39 : decode cX10_isOne 39 = .ok (.goto 4, 3) := by decide +kernel
theorem dX10_isOne_42 : decode cX10_isOne 42 = .ok (.iconst 0, 1) := by decide +kernel
theorem dX10_isOne_43 : decode cX10_isOne 43 = .ok (.ireturn, 1) := by decide +kernel
theorem dX10_add_0 : decode cX10_add 0 = .ok (.iload_n 2, 1) := by decide +kernel
theorem dX10_add_1 : decode cX10_add 1 = .ok (.ifCond .lt 12, 3) := by decide +kernel
theorem dX10_add_4 : decode cX10_add 4 = .ok (.iload_n 2, 1) := by decide +kernel
theorem dX10_add_5 : decode cX10_add 5 = .ok (.bipush 6, 2) := by decide +kernel
theorem dX10_add_7 : decode cX10_add 7 = .ok (.iadd, 1) := by decide +kernel
theorem dX10_add_8 : decode cX10_add 8 = .ok (.aload_n 1, 1) := by decide +kernel
theorem dX10_add_9 : decode cX10_add 9 = .ok (.arraylength, 1) := by decide +kernel
theorem dX10_add_10 : decode cX10_add 10 = .ok (.if_icmp .le 4, 3) := by decide +kernel
theorem dX10_add_13 : decode cX10_add 13 = .ok (.return_, 1) := by decide +kernel
theorem dX10_add_14 : decode cX10_add 14 = .ok (.lconst 0, 1) := by decide +kernel
theorem dX10_add_15 : decode cX10_add 15 = .ok (.lstore 4, 2) := by decide +kernel
theorem dX10_add_17 : decode cX10_add 17 = .ok (.iconst 0, 1) := by decide +kernel
theorem dX10_add_18 : decode cX10_add 18 = .ok (.istore 6, 2) := by decide +kernel
theorem dX10_add_20 : decode cX10_add 20 = .ok (.iload 6, 2) := by decide +kernel
theorem dX10_add_22 : decode cX10_add 22 = .ok (.bipush 6, 2) := by decide +kernel
theorem dX10_add_24 : decode cX10_add 24 = .ok (.if_icmp .ge 51, 3) := by decide +kernel
theorem dX10_add_27 : decode cX10_add 27 = .ok (.lload 4, 2) := by decide +kernel
theorem dX10_add_29 : decode cX10_add 29 = .ok (.aload_n 0, 1) := by decide +kernel
theorem dX10_add_30 : decode cX10_add 30 = .ok (.getfield 9, 3) := by decide +kernel
theorem dX10_add_33 : decode cX10_add 33 = .ok (.iload 6, 2) := by decide +kernel
theorem dX10_add_35 : decode cX10_add 35 = .ok (.laload, 1) := by decide +kernel
theorem dX10_add_36 : decode cX10_add 36 = .ok (.iload_n 3, 1) := by decide +kernel
theorem dX10_add_37 : decode cX10_add 37 = .ok (.i2l, 1) := by decide +kernel
theorem dX10_add_38 : decode cX10_add 38 = .ok (.aload_n 1, 1) := by decide +kernel
theorem dX10_add_39 : decode cX10_add 39 = .ok (.iload_n 2, 1) := by decide +kernel
theorem dX10_add_40 : decode cX10_add 40 = .ok (.iload 6, 2) := by decide +kernel
theorem dX10_add_42 : decode cX10_add 42 = .ok (.iadd, 1) := by decide +kernel
theorem dX10_add_43 : decode cX10_add 43 = .ok (.laload, 1) := by decide +kernel
theorem dX10_add_44 : decode cX10_add 44 = .ok (.lmul, 1) := by decide +kernel
theorem dX10_add_45 : decode cX10_add 45 = .ok (.ladd, 1) := by decide +kernel
theorem dX10_add_46 : decode cX10_add 46 = .ok (.ladd, 1) := by decide +kernel
theorem dX10_add_47 : decode cX10_add 47 = .ok (.lstore 4, 2) := by decide +kernel
theorem dX10_add_49 : decode cX10_add 49 = .ok (.aload_n 0, 1) := by decide +kernel
theorem dX10_add_50 : decode cX10_add 50 = .ok (.getfield 9, 3) := by decide +kernel
theorem dX10_add_53 : decode cX10_add 53 = .ok (.iload 6, 2) := by decide +kernel
theorem dX10_add_55 : decode cX10_add 55 = .ok (.lload 4, 2) := by decide +kernel
theorem dX10_add_57 : decode cX10_add 57 = .ok (.ldc2_w 19, 3) := by decide +kernel
theorem dX10_add_60 : decode cX10_add 60 = .ok (.land, 1) := by decide +kernel
theorem dX10_add_61 : decode cX10_add 61 = .ok (.lastore, 1) := by decide +kernel
theorem dX10_add_62 : decode cX10_add 62 = .ok (.lload 4, 2) := by decide +kernel
theorem dX10_add_64 : decode cX10_add 64 = .ok (.bipush 31, 2) := by decide +kernel
theorem dX10_add_66 : decode cX10_add 66 = .ok (.lushr, 1) := by decide +kernel
theorem dX10_add_67 : decode cX10_add 67 = .ok (.lstore 4, 2) := by decide +kernel
theorem dX10_add_69 : decode cX10_add 69 = .ok (.iinc 6 1, 3) := by decide +kernel
theorem dX10_add_72 : decode cX10_add 72 = .ok (.goto (-52), 3) := by decide +kernel
theorem dX10_add_75 : decode cX10_add 75 = .ok (.return_, 1) := by decide +kernel
theorem dX10_addProduct_0 : decode cX10_addProduct 0 = .ok (.iconst 0, 1) := by decide +kernel
theorem dX10_addProduct_1 : decode cX10_addProduct 1 = .ok (.istore_n 3, 1) := by decide +kernel
theorem dX10_addProduct_2 : decode cX10_addProduct 2 = .ok (.iload_n 3, 1) := by decide +kernel
theorem dX10_addProduct_3 : decode cX10_addProduct 3 = .ok (.bipush 6, 2) := by decide +kernel
theorem dX10_addProduct_5 : decode cX10_addProduct 5 = .ok (.if_icmp .ge 81, 3) := by decide +kernel
theorem dX10_addProduct_8 : decode cX10_addProduct 8 = .ok (.lconst 0, 1) := by decide +kernel
theorem dX10_addProduct_9 : decode cX10_addProduct 9 = .ok (.lstore 4, 2) := by decide +kernel
theorem dX10_addProduct_11 : decode cX10_addProduct 11 = .ok (.iconst 0, 1) := by decide +kernel
theorem dX10_addProduct_12 : decode cX10_addProduct 12 = .ok (.istore 6, 2) := by decide +kernel
theorem dX10_addProduct_14 : decode cX10_addProduct 14 = .ok (.iload_n 3, 1) := by decide +kernel
theorem dX10_addProduct_15 : decode cX10_addProduct 15 = .ok (.iload 6, 2) := by decide +kernel
theorem dX10_addProduct_17 : decode cX10_addProduct 17 = .ok (.iadd, 1) := by decide +kernel
theorem dX10_addProduct_18 : decode cX10_addProduct 18 = .ok (.bipush 6, 2) := by decide +kernel
theorem dX10_addProduct_20 : decode cX10_addProduct 20 = .ok (.if_icmp .ge 60, 3) := by decide +kernel
theorem dX10_addProduct_23 : decode cX10_addProduct 23 = .ok (.lload 4, 2) := by decide +kernel
theorem dX10_addProduct_25 : decode cX10_addProduct 25 = .ok (.aload_n 0, 1) := by decide +kernel
theorem dX10_addProduct_26 : decode cX10_addProduct 26 = .ok (.getfield 9, 3) := by decide +kernel
theorem dX10_addProduct_29 : decode cX10_addProduct 29 = .ok (.iload_n 3, 1) := by decide +kernel
theorem dX10_addProduct_30 : decode cX10_addProduct 30 = .ok (.iload 6, 2) := by decide +kernel
theorem dX10_addProduct_32 : decode cX10_addProduct 32 = .ok (.iadd, 1) := by decide +kernel
theorem dX10_addProduct_33 : decode cX10_addProduct 33 = .ok (.laload, 1) := by decide +kernel
theorem dX10_addProduct_34 : decode cX10_addProduct 34 = .ok (.aload_n 1, 1) := by decide +kernel
theorem dX10_addProduct_35 : decode cX10_addProduct 35 = .ok (.getfield 9, 3) := by decide +kernel
theorem dX10_addProduct_38 : decode cX10_addProduct 38 = .ok (.iload_n 3, 1) := by decide +kernel
theorem dX10_addProduct_39 : decode cX10_addProduct 39 = .ok (.laload, 1) := by decide +kernel
theorem dX10_addProduct_40 : decode cX10_addProduct 40 = .ok (.aload_n 2, 1) := by decide +kernel
theorem dX10_addProduct_41 : decode cX10_addProduct 41 = .ok (.getfield 9, 3) := by decide +kernel
theorem dX10_addProduct_44 : decode cX10_addProduct 44 = .ok (.iload 6, 2) := by decide +kernel
theorem dX10_addProduct_46 : decode cX10_addProduct 46 = .ok (.laload, 1) := by decide +kernel
theorem dX10_addProduct_47 : decode cX10_addProduct 47 = .ok (.lmul, 1) := by decide +kernel
theorem dX10_addProduct_48 : decode cX10_addProduct 48 = .ok (.ladd, 1) := by decide +kernel
theorem dX10_addProduct_49 : decode cX10_addProduct 49 = .ok (.ladd, 1) := by decide +kernel
theorem dX10_addProduct_50 : decode cX10_addProduct 50 = .ok (.lstore 4, 2) := by decide +kernel
theorem dX10_addProduct_52 : decode cX10_addProduct 52 = .ok (.aload_n 0, 1) := by decide +kernel
theorem dX10_addProduct_53 : decode cX10_addProduct 53 = .ok (.getfield 9, 3) := by decide +kernel
theorem dX10_addProduct_56 : decode cX10_addProduct 56 = .ok (.iload_n 3, 1) := by decide +kernel
theorem dX10_addProduct_57 : decode cX10_addProduct 57 = .ok (.iload 6, 2) := by decide +kernel
theorem dX10_addProduct_59 : decode cX10_addProduct 59 = .ok (.iadd, 1) := by decide +kernel
theorem dX10_addProduct_60 : decode cX10_addProduct 60 = .ok (.lload 4, 2) := by decide +kernel
theorem dX10_addProduct_62 : decode cX10_addProduct 62 = .ok (.ldc2_w 19, 3) := by decide +kernel
theorem dX10_addProduct_65 : decode cX10_addProduct 65 = .ok (.land, 1) := by decide +kernel
theorem dX10_addProduct_66 : decode cX10_addProduct 66 = .ok (.lastore, 1) := by decide +kernel
theorem dX10_addProduct_67 : decode cX10_addProduct 67 = .ok (.lload 4, 2) := by decide +kernel
theorem dX10_addProduct_69 : decode cX10_addProduct 69 = .ok (.bipush 31, 2) := by decide +kernel
theorem dX10_addProduct_71 : decode cX10_addProduct 71 = .ok (.lushr, 1) := by decide +kernel
theorem dX10_addProduct_72 : decode cX10_addProduct 72 = .ok (.lstore 4, 2) := by decide +kernel
theorem dX10_addProduct_74 : decode cX10_addProduct 74 = .ok (.iinc 6 1, 3) := by decide +kernel
theorem dX10_addProduct_77 : decode cX10_addProduct 77 = .ok (.goto (-63), 3) := by decide +kernel
theorem dX10_addProduct_80 : decode cX10_addProduct 80 = .ok (.iinc 3 1, 3) := by decide +kernel
theorem dX10_addProduct_83 : decode cX10_addProduct 83 = .ok (.goto (-81), 3) := by decide +kernel
theorem dX10_addProduct_86 : decode cX10_addProduct 86 = .ok (.return_, 1) := by decide +kernel
theorem dX10_multiply_0 : decode cX10_multiply 0 = .ok (.lconst 0, 1) := by decide +kernel
theorem dX10_multiply_1 : decode cX10_multiply 1 = .ok (.lstore_n 2, 1) := by decide +kernel
theorem dX10_multiply_2 : decode cX10_multiply 2 = .ok (.iconst 0, 1) := by decide +kernel
theorem dX10_multiply_3 : decode cX10_multiply 3 = .ok (.istore 4, 2) := by decide +kernel
theorem dX10_multiply_5 : decode cX10_multiply 5 = .ok (.iload 4, 2) := by decide +kernel
theorem dX10_multiply_7 : decode cX10_multiply 7 = .ok (.bipush 6, 2) := by decide +kernel
theorem dX10_multiply_9 : decode cX10_multiply 9 = .ok (.if_icmp .ge 39, 3) := by decide +kernel
theorem dX10_multiply_12 : decode cX10_multiply 12 = .ok (.lload_n 2, 1) := by decide +kernel
theorem dX10_multiply_13 : decode cX10_multiply 13 = .ok (.aload_n 0, 1) := by decide +kernel
theorem dX10_multiply_14 : decode cX10_multiply 14 = .ok (.getfield 9, 3) := by decide +kernel
theorem dX10_multiply_17 : decode cX10_multiply 17 = .ok (.iload 4, 2) := by decide +kernel
theorem dX10_multiply_19 : decode cX10_multiply 19 = .ok (.laload, 1) := by decide +kernel
theorem dX10_multiply_20 : decode cX10_multiply 20 = .ok (.iload_n 1, 1) := by decide +kernel
theorem dX10_multiply_21 : decode cX10_multiply 21 = .ok (.i2l, 1) := by decide +kernel
theorem dX10_multiply_22 : decode cX10_multiply 22 = .ok (.lmul, 1) := by decide +kernel
theorem dX10_multiply_23 : decode cX10_multiply 23 = .ok (.ladd, 1) := by decide +kernel
theorem dX10_multiply_24 : decode cX10_multiply 24 = .ok (.lstore_n 2, 1) := by decide +kernel
theorem dX10_multiply_25 : decode cX10_multiply 25 = .ok (.aload_n 0, 1) := by decide +kernel
theorem dX10_multiply_26 : decode cX10_multiply 26 = .ok (.getfield 9, 3) := by decide +kernel
theorem dX10_multiply_29 : decode cX10_multiply 29 = .ok (.iload 4, 2) := by decide +kernel
theorem dX10_multiply_31 : decode cX10_multiply 31 = .ok (.lload_n 2, 1) := by decide +kernel
theorem dX10_multiply_32 : decode cX10_multiply 32 = .ok (.ldc2_w 19, 3) := by decide +kernel
theorem dX10_multiply_35 : decode cX10_multiply 35 = .ok (.land, 1) := by decide +kernel
theorem dX10_multiply_36 : decode cX10_multiply 36 = .ok (.lastore, 1) := by decide +kernel
theorem dX10_multiply_37 : decode cX10_multiply 37 = .ok (.lload_n 2, 1) := by decide +kernel
theorem dX10_multiply_38 : decode cX10_multiply 38 = .ok (.bipush 31, 2) := by decide +kernel
theorem dX10_multiply_40 : decode cX10_multiply 40 = .ok (.lushr, 1) := by decide +kernel
theorem dX10_multiply_41 : decode cX10_multiply 41 = .ok (.lstore_n 2, 1) := by decide +kernel
theorem dX10_multiply_42 : decode cX10_multiply 42 = .ok (.iinc 4 1, 3) := by decide +kernel
theorem dX10_multiply_45 : decode cX10_multiply 45 = .ok (.goto (-40), 3) := by decide +kernel
theorem dX10_multiply_48 : decode cX10_multiply 48 = .ok (.return_, 1) := by decide +kernel
theorem dX10_remainder_0 : decode cX10_remainder 0 = .ok (.iload_n 1, 1) := by decide +kernel
theorem dX10_remainder_1 : decode cX10_remainder 1 = .ok (.iconst 1, 1) := by decide +kernel
theorem dX10_remainder_2 : decode cX10_remainder 2 = .ok (.if_icmp .ge 5, 3) := by decide +kernel
theorem dX10_remainder_5 : decode cX10_remainder 5 = .ok (.iconst 0, 1) := by decide +kernel
theorem dX10_remainder_6 : decode cX10_remainder 6 = .ok (.ireturn, 1) := by decide +kernel
theorem dX10_remainder_7 : decode cX10_remainder 7 = .ok (.lconst 0, 1) := by decide +kernel
theorem dX10_remainder_8 : decode cX10_remainder 8 = .ok (.lstore_n 2, 1) := by decide +kernel
theorem dX10_remainder_9 : decode cX10_remainder 9 = .ok (.iconst 5, 1) := by decide +kernel
theorem dX10_remainder_10 : decode cX10_remainder 10 = .ok (.istore 4, 2) := by decide +kernel
theorem dX10_remainder_12 : decode cX10_remainder 12 = .ok (.iload 4, 2) := by decide +kernel
theorem dX10_remainder_14 : decode cX10_remainder 14 = .ok (.ifCond .lt 25, 3) := by decide +kernel
theorem dX10_remainder_17 : decode cX10_remainder 17 = .ok (.lload_n 2, 1) := by decide +kernel
theorem dX10_remainder_18 : decode cX10_remainder 18 = .ok (.bipush 31, 2) := by decide +kernel
theorem dX10_remainder_20 : decode cX10_remainder 20 = .ok (.lshl, 1) := by decide +kernel
theorem dX10_remainder_21 : decode cX10_remainder 21 = .ok (.aload_n 0, 1) := by decide +kernel
theorem dX10_remainder_22 : decode cX10_remainder 22 = .ok (.getfield 9, 3) := by decide +kernel
theorem dX10_remainder_25 : decode cX10_remainder 25 = .ok (.iload 4, 2) := by decide +kernel
theorem dX10_remainder_27 : decode cX10_remainder 27 = .ok (.laload, 1) := by decide +kernel
theorem dX10_remainder_28 : decode cX10_remainder 28 = .ok (.lor, 1) := by decide +kernel
theorem dX10_remainder_29 : decode cX10_remainder 29 = .ok (.iload_n 1, 1) := by decide +kernel
theorem dX10_remainder_30 : decode cX10_remainder 30 = .ok (.i2l, 1) := by decide +kernel
theorem dX10_remainder_31 : decode cX10_remainder 31 = .ok (.lrem, 1) := by decide +kernel
theorem dX10_remainder_32 : decode cX10_remainder 32 = .ok (.lstore_n 2, 1) := by decide +kernel
theorem dX10_remainder_33 : decode cX10_remainder 33 = .ok (.iinc 4 (-1), 3) := by decide +kernel
theorem dX10_remainder_36 : decode cX10_remainder 36 = .ok (.goto (-24), 3) := by decide +kernel
theorem dX10_remainder_39 : decode cX10_remainder 39 = .ok (.lload_n 2, 1) := by decide +kernel
theorem dX10_remainder_40 : decode cX10_remainder 40 = .ok (.l2i, 1) := by decide +kernel
theorem dX10_remainder_41 : decode cX10_remainder 41 = .ok (.ireturn, 1) := by decide +kernel
theorem dX10_divide_0 : decode cX10_divide 0 = .ok (.iload_n 1, 1) := by decide +kernel
theorem dX10_divide_1 : decode cX10_divide 1 = .ok (.iconst 1, 1) := by decide +kernel
theorem dX10_divide_2 : decode cX10_divide 2 = .ok (.if_icmp .ge 4, 3) := by decide +kernel
theorem dX10_divide_5 : decode cX10_divide 5 = .ok (.return_, 1) := by decide +kernel
theorem dX10_divide_6 : decode cX10_divide 6 = .ok (.lconst 0, 1) := by decide +kernel
theorem dX10_divide_7 : decode cX10_divide 7 = .ok (.lstore_n 2, 1) := by decide +kernel
theorem dX10_divide_8 : decode cX10_divide 8 = .ok (.iconst 5, 1) := by decide +kernel
theorem dX10_divide_9 : decode cX10_divide 9 = .ok (.istore 4, 2) := by decide +kernel
theorem dX10_divide_11 : decode cX10_divide 11 = .ok (.iload 4, 2) := by decide +kernel
theorem dX10_divide_13 : decode cX10_divide 13 = .ok (.ifCond .lt 41, 3) := by decide +kernel
theorem dX10_divide_16 : decode cX10_divide 16 = .ok (.lload_n 2, 1) := by decide +kernel
theorem dX10_divide_17 : decode cX10_divide 17 = .ok (.bipush 31, 2) := by decide +kernel
theorem dX10_divide_19 : decode cX10_divide 19 = .ok (.lshl, 1) := by decide +kernel
theorem dX10_divide_20 : decode cX10_divide 20 = .ok (.aload_n 0, 1) := by decide +kernel
theorem dX10_divide_21 : decode cX10_divide 21 = .ok (.getfield 9, 3) := by decide +kernel
theorem dX10_divide_24 : decode cX10_divide 24 = .ok (.iload 4, 2) := by decide +kernel
theorem dX10_divide_26 : decode cX10_divide 26 = .ok (.laload, 1) := by decide +kernel
theorem dX10_divide_27 : decode cX10_divide 27 = .ok (.lor, 1) := by decide +kernel
theorem dX10_divide_28 : decode cX10_divide 28 = .ok (.lstore 5, 2) := by decide +kernel
theorem dX10_divide_30 : decode cX10_divide 30 = .ok (.aload_n 0, 1) := by decide +kernel
theorem dX10_divide_31 : decode cX10_divide 31 = .ok (.getfield 9, 3) := by decide +kernel
theorem dX10_divide_34 : decode cX10_divide 34 = .ok (.iload 4, 2) := by decide +kernel
theorem dX10_divide_36 : decode cX10_divide 36 = .ok (.lload 5, 2) := by decide +kernel
theorem dX10_divide_38 : decode cX10_divide 38 = .ok (.iload_n 1, 1) := by decide +kernel
theorem dX10_divide_39 : decode cX10_divide 39 = .ok (.i2l, 1) := by decide +kernel
theorem dX10_divide_40 : decode cX10_divide 40 = .ok (.ldiv, 1) := by decide +kernel
theorem dX10_divide_41 : decode cX10_divide 41 = .ok (.lastore, 1) := by decide +kernel
theorem dX10_divide_42 : decode cX10_divide 42 = .ok (.lload 5, 2) := by decide +kernel
theorem dX10_divide_44 : decode cX10_divide 44 = .ok (.iload_n 1, 1) := by decide +kernel
theorem dX10_divide_45 : decode cX10_divide 45 = .ok (.i2l, 1) := by decide +kernel
theorem dX10_divide_46 : decode cX10_divide 46 = .ok (.lrem, 1) := by decide +kernel
theorem dX10_divide_47 : decode cX10_divide 47 = .ok (.lstore_n 2, 1) := by decide +kernel
theorem dX10_divide_48 : decode cX10_divide 48 = .ok (.iinc 4 (-1), 3) := by decide +kernel
theorem dX10_divide_51 : decode cX10_divide 51 = .ok (.goto (-40), 3) := by decide +kernel
theorem dX10_divide_54 : decode cX10_divide 54 = .ok (.return_, 1) := by decide +kernel
theorem dX11_init_0 : decode cX11_init 0 = .ok (.aload_n 0, 1) := by decide +kernel
theorem dX11_init_1 : decode cX11_init 1 = .ok (.invokespecial 1, 3) := by decide +kernel
theorem dX11_init_4 : decode cX11_init 4 = .ok (.aload_n 0, 1) := by decide +kernel
theorem dX11_init_5 : decode cX11_init 5 = .ok (.new 7, 3) := by decide +kernel
theorem dX11_init_8 : decode cX11_init 8 = .ok (.dup, 1) := by decide +kernel
theorem dX11_init_9 : decode cX11_init 9 = .ok (.invokespecial 9, 3) := by decide +kernel
theorem dX11_init_12 : decode cX11_init 12 = .ok (.putfield 10, 3) := by decide +kernel
theorem dX11_init_15 : decode cX11_init 15 = .ok (.aload_n 0, 1) := by decide +kernel
theorem dX11_init_16 : decode cX11_init 16 = .ok (.new 7, 3) := by decide +kernel
theorem dX11_init_19 : decode cX11_init 19 = .ok (.dup, 1) := by decide +kernel
theorem dX11_init_20 : decode cX11_init 20 = .ok (.invokespecial 9, 3) := by decide +kernel
theorem dX11_init_23 : decode cX11_init 23 = .ok (.putfield 16, 3) := by decide +kernel
theorem dX11_init_26 : decode cX11_init 26 = .ok (.aload_n 0, 1) := by decide +kernel
theorem dX11_init_27 : decode cX11_init 27 = .ok (.new 19, 3) := by decide +kernel
theorem dX11_init_30 : decode cX11_init 30 = .ok (.dup, 1) := by decide +kernel
theorem dX11_init_31 : decode cX11_init 31 = .ok (.invokespecial 21, 3) := by decide +kernel
theorem dX11_init_34 : decode cX11_init 34 = .ok (.putfield 22, 3) := by decide +kernel
theorem dX11_init_37 : decode cX11_init 37 = .ok (.aload_n 0, 1) := by decide +kernel
theorem dX11_init_38 : decode cX11_init 38 = .ok (.new 26, 3) := by decide +kernel
theorem dX11_init_41 : decode cX11_init 41 = .ok (.dup, 1) := by decide +kernel
theorem dX11_init_42 : decode cX11_init 42 = .ok (.invokespecial 28, 3) := by decide +kernel
theorem dX11_init_45 : decode cX11_init 45 = .ok (.putfield 29, 3) := by decide +kernel
theorem dX11_init_48 : decode cX11_init 48 = .ok (.aload_n 0, 1) := by decide +kernel
theorem dX11_init_49 : decode cX11_init 49 = .ok (.new 33, 3) := by decide +kernel
theorem dX11_init_52 : decode cX11_init 52 = .ok (.dup, 1) := by decide +kernel
theorem dX11_init_53 : decode cX11_init 53 = .ok (.aload_n 0, 1) := by decide +kernel
theorem dX11_init_54 : decode cX11_init 54 = .ok (.getfield 10, 3) := by decide +kernel
theorem dX11_init_57 : decode cX11_init 57 = .ok (.invokespecial 35, 3) := by decide +kernel
theorem dX11_init_60 : decode cX11_init 60 = .ok (.putfield 38, 3) := by decide +kernel
theorem dX11_init_63 : decode cX11_init 63 = .ok (.aload_n 0, 1) := by decide +kernel
theorem dX11_init_64 : decode cX11_init 64 = .ok (.new 42, 3) := by decide +kernel
theorem dX11_init_67 : decode cX11_init 67 = .ok (.dup, 1) := by decide +kernel
theorem dX11_init_68 : decode cX11_init 68 = .ok (.aload_n 0, 1) := by decide +kernel
theorem dX11_init_69 : decode cX11_init 69 = .ok (.getfield 38, 3) := by decide +kernel
theorem dX11_init_72 : decode cX11_init 72 = .ok (.invokespecial 44, 3) := by decide +kernel
theorem dX11_init_75 : decode cX11_init 75 = .ok (.putfield 47, 3) := by decide +kernel
theorem dX11_init_78 : decode cX11_init 78 = .ok (.aload_n 0, 1) := by decide +kernel
theorem dX11_init_79 : decode cX11_init 79 = .ok (.new 51, 3) := by decide +kernel
theorem dX11_init_82 : decode cX11_init 82 = .ok (.dup, 1) := by decide +kernel
theorem dX11_init_83 : decode cX11_init 83 = .ok (.aload_n 0, 1) := by decide +kernel
theorem dX11_init_84 : decode cX11_init 84 = .ok (.getfield 22, 3) := by decide +kernel
theorem dX11_init_87 : decode cX11_init 87 = .ok (.invokespecial 53, 3) := by decide +kernel
theorem dX11_init_90 : decode cX11_init 90 = .ok (.putfield 56, 3) := by decide +kernel
theorem dX11_init_93 : decode cX11_init 93 = .ok (.aload_n 0, 1) := by decide +kernel
theorem dX11_init_94 : decode cX11_init 94 = .ok (.new 60, 3) := by decide +kernel
theorem dX11_init_97 : decode cX11_init 97 = .ok (.dup, 1) := by decide +kernel
theorem dX11_init_98 : decode cX11_init 98 = .ok (.invokespecial 62, 3) := by decide +kernel
theorem dX11_init_101 : decode cX11_init 101 = .ok (.putfield 63, 3) := by decide +kernel
theorem dX11_init_104 : decode cX11_init 104 = .ok (.aload_n 0, 1) := by decide +kernel
theorem dX11_init_105 : decode cX11_init 105 = .ok (.new 67, 3) := by decide +kernel
theorem dX11_init_108 : decode cX11_init 108 = .ok (.dup, 1) := by decide +kernel
theorem dX11_init_109 : decode cX11_init 109 = .ok (.invokespecial 69, 3) := by decide +kernel
theorem dX11_init_112 : decode cX11_init 112 = .ok (.putfield 70, 3) := by decide +kernel
theorem dX11_init_115 : decode cX11_init 115 = .ok (.aload_n 0, 1) := by decide +kernel
theorem dX11_init_116 : decode cX11_init 116 = .ok (.new 74, 3) := by decide +kernel
theorem dX11_init_119 : decode cX11_init 119 = .ok (.dup, 1) := by decide +kernel
theorem dX11_init_120 : decode cX11_init 120 = .ok (.aload_n 0, 1) := by decide +kernel
theorem dX11_init_121 : decode cX11_init 121 = .ok (.getfield 16, 3) := by decide +kernel
theorem dX11_init_124 : decode cX11_init 124 = .ok (.invokespecial 76, 3) := by decide +kernel
theorem dX11_init_127 : decode cX11_init 127 = .ok (.putfield 77, 3) := by decide +kernel
theorem dX11_init_130 : decode cX11_init 130 = .ok (.aload_n 0, 1) := by decide +kernel
theorem dX11_init_131 : decode cX11_init 131 = .ok (.getfield 22, 3) := by decide +kernel
theorem dX11_init_134 : decode cX11_init 134 = .ok (.invokevirtual 81, 3) := by decide +kernel
theorem dX11_init_137 : decode cX11_init 137 = .ok (.return_, 1) := by decide +kernel
theorem dX11_feed_0 : decode cX11_feed 0 = .ok (.aload_n 0, 1) := by decide +kernel
theorem dX11_feed_1 : decode cX11_feed 1 = .ok (.getfield 10, 3) := by decide +kernel
theorem dX11_feed_4 : decode cX11_feed 4 = .ok (.getfield 84, 3) := by decide +kernel
theorem dX11_feed_7 : decode cX11_feed 7 = .ok (.bipush 20, 2) := by decide +kernel
theorem dX11_feed_9 : decode cX11_feed 9 = .ok (.iadd, 1) := by decide +kernel
theorem dX11_feed_10 : decode cX11_feed 10 = .ok (.sipush 400, 3) := by decide +kernel
theorem dX11_feed_13 : decode cX11_feed 13 = .ok (.if_icmp .le 5, 3) := by decide +kernel
theorem dX11_feed_16 : decode cX11_feed 16 = .ok (.iconst (-1), 1) := by decide +kernel
theorem dX11_feed_17 : decode cX11_feed 17 = .ok (.ireturn, 1) := by decide +kernel
theorem dX11_feed_18 : decode cX11_feed 18 = .ok (.aload_n 0, 1) := by decide +kernel
theorem dX11_feed_19 : decode cX11_feed 19 = .ok (.getfield 10, 3) := by decide +kernel
theorem dX11_feed_22 : decode cX11_feed 22 = .ok (.iload_n 1, 1) := by decide +kernel
theorem dX11_feed_23 : decode cX11_feed 23 = .ok (.invokevirtual 88, 3) := by decide +kernel
theorem dX11_feed_26 : decode cX11_feed 26 = .ok (.aload_n 0, 1) := by decide +kernel
theorem dX11_feed_27 : decode cX11_feed 27 = .ok (.getfield 10, 3) := by decide +kernel
theorem dX11_feed_30 : decode cX11_feed 30 = .ok (.iload_n 2, 1) := by decide +kernel
theorem dX11_feed_31 : decode cX11_feed 31 = .ok (.invokevirtual 88, 3) := by decide +kernel
theorem dX11_feed_34 : decode cX11_feed 34 = .ok (.aload_n 0, 1) := by decide +kernel
theorem dX11_feed_35 : decode cX11_feed 35 = .ok (.getfield 10, 3) := by decide +kernel
theorem dX11_feed_38 : decode cX11_feed 38 = .ok (.iload_n 3, 1) := by decide +kernel
theorem dX11_feed_39 : decode cX11_feed 39 = .ok (.invokevirtual 88, 3) := by decide +kernel
theorem dX11_feed_42 : decode cX11_feed 42 = .ok (.aload_n 0, 1) := by decide +kernel
theorem dX11_feed_43 : decode cX11_feed 43 = .ok (.getfield 10, 3) := by decide +kernel
theorem dX11_feed_46 : decode cX11_feed 46 = .ok (.iload 4, 2) := by decide +kernel
theorem dX11_feed_48 : decode cX11_feed 48 = .ok (.invokevirtual 88, 3) := by decide +kernel
theorem dX11_feed_51 : decode cX11_feed 51 = .ok (.aload_n 0, 1) := by decide +kernel
theorem dX11_feed_52 : decode cX11_feed 52 = .ok (.getfield 10, 3) := by decide +kernel
theorem dX11_feed_55 : decode cX11_feed 55 = .ok (.iload 5, 2) := by decide +kernel
theorem dX11_feed_57 : decode cX11_feed 57 = .ok (.invokevirtual 88, 3) := by decide +kernel
theorem dX11_feed_60 : decode cX11_feed 60 = .ok (.aload_n 0, 1) := by decide +kernel
theorem dX11_feed_61 : decode cX11_feed 61 = .ok (.getfield 10, 3) := by decide +kernel
theorem dX11_feed_64 : decode cX11_feed 64 = .ok (.getfield 84, 3) := by decide +kernel
theorem dX11_feed_67 : decode cX11_feed 67 = .ok (.ireturn, 1) := by decide +kernel
theorem dX11_position_0 : decode cX11_position 0 = .ok (.aload_n 0, 1) := by decide +kernel
theorem dX11_position_1 : decode cX11_position 1 = .ok (.iload_n 1, 1) := by decide +kernel
theorem dX11_position_2 : decode cX11_position 2 = .ok (.invokevirtual 92, 3) := by decide +kernel
theorem dX11_position_5 : decode cX11_position 5 = .ok (.aload_n 0, 1) := by decide +kernel
theorem dX11_position_6 : decode cX11_position 6 = .ok (.getfield 63, 3) := by decide +kernel
theorem dX11_position_9 : decode cX11_position 9 = .ok (.invokevirtual 95, 3) := by decide +kernel
theorem dX11_position_12 : decode cX11_position 12 = .ok (.ifCond .eq 13, 3) := by decide +kernel
theorem dX11_position_15 : decode cX11_position 15 = .ok (.new 99, 3) := by decide +kernel
theorem dX11_position_18 : decode cX11_position 18 = .ok (.dup, 1) := by decide +kernel
theorem dX11_position_19 : decode cX11_position 19 = .ok (.ldc 101, 2) := by decide +kernel
theorem dX11_position_21 : decode cX11_position 21 = .ok (.invokespecial 103, 3) := by decide +kernel
theorem dX11_position_24 : decode cX11_position 24 = .ok (.athrow, 1) := by decide +kernel
theorem dX11_position_25 : decode cX11_position 25 = .ok (.aload_n 0, 1) := by decide +kernel
theorem dX11_position_26 : decode cX11_position 26 = .ok (.getfield 47, 3) := by decide +kernel
theorem dX11_position_29 : decode cX11_position 29 = .ok (.iload_n 1, 1) := by decide +kernel
theorem dX11_position_30 : decode cX11_position 30 = .ok (.invokevirtual 106, 3) := by decide +kernel
theorem dX11_position_33 : decode cX11_position 33 = .ok (.ifCond .eq 35, 3) := by decide +kernel
theorem dX11_position_36 : decode cX11_position 36 = .ok (.aload_n 0, 1) := by decide +kernel
theorem dX11_position_37 : decode cX11_position 37 = .ok (.getfield 29, 3) := by decide +kernel
theorem dX11_position_40 : decode cX11_position 40 = .ok (.aload_n 0, 1) := by decide +kernel
theorem dX11_position_41 : decode cX11_position 41 = .ok (.getfield 22, 3) := by decide +kernel
theorem dX11_position_44 : decode cX11_position 44 = .ok (.invokevirtual 110, 3) := by decide +kernel
theorem dX11_position_47 : decode cX11_position 47 = .ok (.aload_n 0, 1) := by decide +kernel
theorem dX11_position_48 : decode cX11_position 48 = .ok (.getfield 22, 3) := by decide +kernel
theorem dX11_position_51 : decode cX11_position 51 = .ok (.aload_n 0, 1) := by decide +kernel
theorem dX11_position_52 : decode cX11_position 52 = .ok (.getfield 47, 3) := by decide +kernel
theorem dX11_position_55 : decode cX11_position 55 = .ok (.getfield 113, 3) := by decide +kernel
theorem dX11_position_58 : decode cX11_position 58 = .ok (.invokevirtual 114, 3) := by decide +kernel
theorem dX11_position_61 : decode cX11_position 61 = .ok (.aload_n 0, 1) := by decide +kernel
theorem dX11_position_62 : decode cX11_position 62 = .ok (.getfield 56, 3) := by decide +kernel
theorem dX11_position_65 : decode cX11_position 65 = .ok (.invokevirtual 117, 3) := by decide +kernel
theorem dX11_position_68 : decode cX11_position 68 = .ok (.aload_n 0, 1) := by decide +kernel
theorem dX11_position_69 : decode cX11_position 69 = .ok (.getfield 10, 3) := by decide +kernel
theorem dX11_position_72 : decode cX11_position 72 = .ok (.iconst 0, 1) := by decide +kernel
theorem dX11_position_73 : decode cX11_position 73 = .ok (.putfield 84, 3) := by decide +kernel
theorem dX11_position_76 : decode cX11_position 76 = .ok (.aload_n 0, 1) := by decide +kernel
theorem dX11_position_77 : decode cX11_position 77 = .ok (.getfield 38, 3) := by decide +kernel
theorem dX11_position_80 : decode cX11_position 80 = .ok (.getfield 120, 3) := by decide +kernel
theorem dX11_position_83 : decode cX11_position 83 = .ok (.ireturn, 1) := by decide +kernel
theorem dX11_fault_0 : decode cX11_fault 0 = .ok (.aload_n 0, 1) := by decide +kernel
theorem dX11_fault_1 : decode cX11_fault 1 = .ok (.getfield 38, 3) := by decide +kernel
theorem dX11_fault_4 : decode cX11_fault 4 = .ok (.getfield 123, 3) := by decide +kernel
theorem dX11_fault_7 : decode cX11_fault 7 = .ok (.ireturn, 1) := by decide +kernel
theorem dX11_men_0 : decode cX11_men 0 = .ok (.iload_n 1, 1) := by decide +kernel
theorem dX11_men_1 : decode cX11_men 1 = .ok (.iload_n 2, 1) := by decide +kernel
theorem dX11_men_2 : decode cX11_men 2 = .ok (.invokestatic 126, 3) := by decide +kernel
theorem dX11_men_5 : decode cX11_men 5 = .ok (.aload_n 0, 1) := by decide +kernel
theorem dX11_men_6 : decode cX11_men 6 = .ok (.getfield 22, 3) := by decide +kernel
theorem dX11_men_9 : decode cX11_men 9 = .ok (.iload_n 1, 1) := by decide +kernel
theorem dX11_men_10 : decode cX11_men 10 = .ok (.iload_n 2, 1) := by decide +kernel
theorem dX11_men_11 : decode cX11_men 11 = .ok (.invokevirtual 130, 3) := by decide +kernel
theorem dX11_men_14 : decode cX11_men 14 = .ok (.ireturn, 1) := by decide +kernel
theorem dX11_ask_0 : decode cX11_ask 0 = .ok (.iload_n 1, 1) := by decide +kernel
theorem dX11_ask_1 : decode cX11_ask 1 = .ok (.tableswitch 118 0 7 #[47, 55, 64, 73, 89, 97, 105, 113], 47) := by decide +kernel
theorem dX11_ask_48 : decode cX11_ask 48 = .ok (.aload_n 0, 1) := by decide +kernel
theorem dX11_ask_49 : decode cX11_ask 49 = .ok (.getfield 22, 3) := by decide +kernel
theorem dX11_ask_52 : decode cX11_ask 52 = .ok (.getfield 134, 3) := by decide +kernel
theorem dX11_ask_55 : decode cX11_ask 55 = .ok (.ireturn, 1) := by decide +kernel
theorem dX11_ask_56 : decode cX11_ask 56 = .ok (.aload_n 0, 1) := by decide +kernel
theorem dX11_ask_57 : decode cX11_ask 57 = .ok (.getfield 22, 3) := by decide +kernel
theorem dX11_ask_60 : decode cX11_ask 60 = .ok (.iconst 0, 1) := by decide +kernel
theorem dX11_ask_61 : decode cX11_ask 61 = .ok (.invokevirtual 137, 3) := by decide +kernel
theorem dX11_ask_64 : decode cX11_ask 64 = .ok (.ireturn, 1) := by decide +kernel
theorem dX11_ask_65 : decode cX11_ask 65 = .ok (.aload_n 0, 1) := by decide +kernel
theorem dX11_ask_66 : decode cX11_ask 66 = .ok (.getfield 22, 3) := by decide +kernel
theorem dX11_ask_69 : decode cX11_ask 69 = .ok (.iconst 1, 1) := by decide +kernel
theorem dX11_ask_70 : decode cX11_ask 70 = .ok (.invokevirtual 137, 3) := by decide +kernel
theorem dX11_ask_73 : decode cX11_ask 73 = .ok (.ireturn, 1) := by decide +kernel
theorem dX11_ask_74 : decode cX11_ask 74 = .ok (.aload_n 0, 1) := by decide +kernel
theorem dX11_ask_75 : decode cX11_ask 75 = .ok (.getfield 22, 3) := by decide +kernel
theorem dX11_ask_78 : decode cX11_ask 78 = .ok (.invokevirtual 141, 3) := by decide +kernel
theorem dX11_ask_81 : decode cX11_ask 81 = .ok (.ifCond .eq 7, 3) := by decide +kernel
theorem dX11_ask_84 : decode cX11_ask 84 = .ok (.iconst 1, 1) := by decide +kernel
theorem dX11_ask_85 : decode cX11_ask 85 = .ok (.goto 4, 3) := by decide +kernel
theorem dX11_ask_88 : decode cX11_ask 88 = .ok (.iconst 0, 1) := by decide +kernel
theorem dX11_ask_89 : decode cX11_ask 89 = .ok (.ireturn, 1) := by decide +kernel
theorem dX11_ask_90 : decode cX11_ask 90 = .ok (.aload_n 0, 1) := by decide +kernel
theorem dX11_ask_91 : decode cX11_ask 91 = .ok (.getfield 10, 3) := by decide +kernel
theorem dX11_ask_94 : decode cX11_ask 94 = .ok (.getfield 84, 3) := by decide +kernel
theorem dX11_ask_97 : decode cX11_ask 97 = .ok (.ireturn, 1) := by decide +kernel
theorem dX11_ask_98 : decode cX11_ask 98 = .ok (.aload_n 0, 1) := by decide +kernel
theorem dX11_ask_99 : decode cX11_ask 99 = .ok (.getfield 16, 3) := by decide +kernel
theorem dX11_ask_102 : decode cX11_ask 102 = .ok (.getfield 84, 3) := by decide +kernel
theorem dX11_ask_105 : decode cX11_ask 105 = .ok (.ireturn, 1) := by decide +kernel
theorem dX11_ask_106 : decode cX11_ask 106 = .ok (.aload_n 0, 1) := by decide +kernel
theorem dX11_ask_107 : decode cX11_ask 107 = .ok (.getfield 56, 3) := by decide +kernel
theorem dX11_ask_110 : decode cX11_ask 110 = .ok (.getfield 144, 3) := by decide +kernel
theorem dX11_ask_113 : decode cX11_ask 113 = .ok (.ireturn, 1) := by decide +kernel
theorem dX11_ask_114 : decode cX11_ask 114 = .ok (.aload_n 0, 1) := by decide +kernel
theorem dX11_ask_115 : decode cX11_ask 115 = .ok (.getfield 146, 3) := by decide +kernel
theorem dX11_ask_118 : decode cX11_ask 118 = .ok (.ireturn, 1) := by decide +kernel
theorem dX11_ask_119 : decode cX11_ask 119 = .ok (.new 149, 3) := by decide +kernel
theorem dX11_ask_122 : decode cX11_ask 122 = .ok (.dup, 1) := by decide +kernel
theorem dX11_ask_123 : decode cX11_ask 123 = .ok (.ldc 151, 2) := by decide +kernel
theorem dX11_ask_125 : decode cX11_ask 125 = .ok (.invokespecial 153, 3) := by decide +kernel
theorem dX11_ask_128 : decode cX11_ask 128 = .ok (.athrow, 1) := by decide +kernel
theorem dX11_plays_0 : decode cX11_plays 0 = .ok (.iload_n 1, 1) := by decide +kernel
theorem dX11_plays_1 : decode cX11_plays 1 = .ok (.iload_n 2, 1) := by decide +kernel
theorem dX11_plays_2 : decode cX11_plays 2 = .ok (.invokestatic 154, 3) := by decide +kernel
theorem dX11_plays_5 : decode cX11_plays 5 = .ok (.aload_n 0, 1) := by decide +kernel
theorem dX11_plays_6 : decode cX11_plays 6 = .ok (.iload_n 1, 1) := by decide +kernel
theorem dX11_plays_7 : decode cX11_plays 7 = .ok (.iload_n 2, 1) := by decide +kernel
theorem dX11_plays_8 : decode cX11_plays 8 = .ok (.invokevirtual 157, 3) := by decide +kernel
theorem dX11_plays_11 : decode cX11_plays 11 = .ok (.aload_n 0, 1) := by decide +kernel
theorem dX11_plays_12 : decode cX11_plays 12 = .ok (.getfield 56, 3) := by decide +kernel
theorem dX11_plays_15 : decode cX11_plays 15 = .ok (.iload_n 1, 1) := by decide +kernel
theorem dX11_plays_16 : decode cX11_plays 16 = .ok (.iload_n 2, 1) := by decide +kernel
theorem dX11_plays_17 : decode cX11_plays 17 = .ok (.invokevirtual 160, 3) := by decide +kernel
theorem dX11_plays_20 : decode cX11_plays 20 = .ok (.aload_n 0, 1) := by decide +kernel
theorem dX11_plays_21 : decode cX11_plays 21 = .ok (.getfield 56, 3) := by decide +kernel
theorem dX11_plays_24 : decode cX11_plays 24 = .ok (.getfield 144, 3) := by decide +kernel
theorem dX11_plays_27 : decode cX11_plays 27 = .ok (.ireturn, 1) := by decide +kernel
theorem dX11_result_0 : decode cX11_result 0 = .ok (.aload_n 0, 1) := by decide +kernel
theorem dX11_result_1 : decode cX11_result 1 = .ok (.iload_n 1, 1) := by decide +kernel
theorem dX11_result_2 : decode cX11_result 2 = .ok (.invokevirtual 163, 3) := by decide +kernel
theorem dX11_result_5 : decode cX11_result 5 = .ok (.iload_n 2, 1) := by decide +kernel
theorem dX11_result_6 : decode cX11_result 6 = .ok (.iload_n 3, 1) := by decide +kernel
theorem dX11_result_7 : decode cX11_result 7 = .ok (.invokestatic 126, 3) := by decide +kernel
theorem dX11_result_10 : decode cX11_result 10 = .ok (.aload_n 0, 1) := by decide +kernel
theorem dX11_result_11 : decode cX11_result 11 = .ok (.getfield 56, 3) := by decide +kernel
theorem dX11_result_14 : decode cX11_result 14 = .ok (.iload_n 1, 1) := by decide +kernel
theorem dX11_result_15 : decode cX11_result 15 = .ok (.iload_n 2, 1) := by decide +kernel
theorem dX11_result_16 : decode cX11_result 16 = .ok (.iload_n 3, 1) := by decide +kernel
theorem dX11_result_17 : decode cX11_result 17 = .ok (.invokevirtual 166, 3) := by decide +kernel
theorem dX11_result_20 : decode cX11_result 20 = .ok (.ireturn, 1) := by decide +kernel
theorem dX11_way_0 : decode cX11_way 0 = .ok (.aload_n 0, 1) := by decide +kernel
theorem dX11_way_1 : decode cX11_way 1 = .ok (.iload_n 1, 1) := by decide +kernel
theorem dX11_way_2 : decode cX11_way 2 = .ok (.invokevirtual 163, 3) := by decide +kernel
theorem dX11_way_5 : decode cX11_way 5 = .ok (.aload_n 0, 1) := by decide +kernel
theorem dX11_way_6 : decode cX11_way 6 = .ok (.getfield 56, 3) := by decide +kernel
theorem dX11_way_9 : decode cX11_way 9 = .ok (.iload_n 1, 1) := by decide +kernel
theorem dX11_way_10 : decode cX11_way 10 = .ok (.iload_n 2, 1) := by decide +kernel
theorem dX11_way_11 : decode cX11_way 11 = .ok (.invokevirtual 170, 3) := by decide +kernel
theorem dX11_way_14 : decode cX11_way 14 = .ok (.ireturn, 1) := by decide +kernel
theorem dX11_choose_0 : decode cX11_choose 0 = .ok (.aload_n 0, 1) := by decide +kernel
theorem dX11_choose_1 : decode cX11_choose 1 = .ok (.iload_n 1, 1) := by decide +kernel
theorem dX11_choose_2 : decode cX11_choose 2 = .ok (.invokevirtual 163, 3) := by decide +kernel
theorem dX11_choose_5 : decode cX11_choose 5 = .ok (.aload_n 0, 1) := by decide +kernel
theorem dX11_choose_6 : decode cX11_choose 6 = .ok (.getfield 63, 3) := by decide +kernel
theorem dX11_choose_9 : decode cX11_choose 9 = .ok (.invokevirtual 95, 3) := by decide +kernel
theorem dX11_choose_12 : decode cX11_choose 12 = .ok (.istore_n 2, 1) := by decide +kernel
theorem dX11_choose_13 : decode cX11_choose 13 = .ok (.iload_n 2, 1) := by decide +kernel
theorem dX11_choose_14 : decode cX11_choose 14 = .ok (.ifCond .ne 14, 3) := by decide +kernel
theorem dX11_choose_17 : decode cX11_choose 17 = .ok (.aload_n 0, 1) := by decide +kernel
theorem dX11_choose_18 : decode cX11_choose 18 = .ok (.getfield 29, 3) := by decide +kernel
theorem dX11_choose_21 : decode cX11_choose 21 = .ok (.aload_n 0, 1) := by decide +kernel
theorem dX11_choose_22 : decode cX11_choose 22 = .ok (.getfield 22, 3) := by decide +kernel
theorem dX11_choose_25 : decode cX11_choose 25 = .ok (.invokevirtual 110, 3) := by decide +kernel
theorem dX11_choose_28 : decode cX11_choose 28 = .ok (.aload_n 0, 1) := by decide +kernel
theorem dX11_choose_29 : decode cX11_choose 29 = .ok (.getfield 56, 3) := by decide +kernel
theorem dX11_choose_32 : decode cX11_choose 32 = .ok (.iload_n 1, 1) := by decide +kernel
theorem dX11_choose_33 : decode cX11_choose 33 = .ok (.invokevirtual 173, 3) := by decide +kernel
theorem dX11_choose_36 : decode cX11_choose 36 = .ok (.aload_n 0, 1) := by decide +kernel
theorem dX11_choose_37 : decode cX11_choose 37 = .ok (.getfield 56, 3) := by decide +kernel
theorem dX11_choose_40 : decode cX11_choose 40 = .ok (.invokevirtual 117, 3) := by decide +kernel
theorem dX11_choose_43 : decode cX11_choose 43 = .ok (.iload_n 2, 1) := by decide +kernel
theorem dX11_choose_44 : decode cX11_choose 44 = .ok (.ifCond .eq 14, 3) := by decide +kernel
theorem dX11_choose_47 : decode cX11_choose 47 = .ok (.aload_n 0, 1) := by decide +kernel
theorem dX11_choose_48 : decode cX11_choose 48 = .ok (.getfield 63, 3) := by decide +kernel
theorem dX11_choose_51 : decode cX11_choose 51 = .ok (.aload_n 0, 1) := by decide +kernel
theorem dX11_choose_52 : decode cX11_choose 52 = .ok (.getfield 22, 3) := by decide +kernel
theorem dX11_choose_55 : decode cX11_choose 55 = .ok (.invokevirtual 176, 3) := by decide +kernel
theorem dX11_choose_58 : decode cX11_choose 58 = .ok (.aload_n 0, 1) := by decide +kernel
theorem dX11_choose_59 : decode cX11_choose 59 = .ok (.getfield 22, 3) := by decide +kernel
theorem dX11_choose_62 : decode cX11_choose 62 = .ok (.getfield 134, 3) := by decide +kernel
theorem dX11_choose_65 : decode cX11_choose 65 = .ok (.ireturn, 1) := by decide +kernel
theorem dX11_say_0 : decode cX11_say 0 = .ok (.aload_n 0, 1) := by decide +kernel
theorem dX11_say_1 : decode cX11_say 1 = .ok (.iload_n 1, 1) := by decide +kernel
theorem dX11_say_2 : decode cX11_say 2 = .ok (.invokevirtual 92, 3) := by decide +kernel
theorem dX11_say_5 : decode cX11_say 5 = .ok (.iload_n 2, 1) := by decide +kernel
theorem dX11_say_6 : decode cX11_say 6 = .ok (.iload_n 3, 1) := by decide +kernel
theorem dX11_say_7 : decode cX11_say 7 = .ok (.invokestatic 154, 3) := by decide +kernel
theorem dX11_say_10 : decode cX11_say 10 = .ok (.aload_n 0, 1) := by decide +kernel
theorem dX11_say_11 : decode cX11_say 11 = .ok (.iload_n 2, 1) := by decide +kernel
theorem dX11_say_12 : decode cX11_say 12 = .ok (.iload_n 3, 1) := by decide +kernel
theorem dX11_say_13 : decode cX11_say 13 = .ok (.invokevirtual 157, 3) := by decide +kernel
theorem dX11_say_16 : decode cX11_say 16 = .ok (.iconst (-1), 1) := by decide +kernel
theorem dX11_say_17 : decode cX11_say 17 = .ok (.istore 4, 2) := by decide +kernel
theorem dX11_say_19 : decode cX11_say 19 = .ok (.aload_n 0, 1) := by decide +kernel
theorem dX11_say_20 : decode cX11_say 20 = .ok (.getfield 47, 3) := by decide +kernel
theorem dX11_say_23 : decode cX11_say 23 = .ok (.iload_n 1, 1) := by decide +kernel
theorem dX11_say_24 : decode cX11_say 24 = .ok (.invokevirtual 179, 3) := by decide +kernel
theorem dX11_say_27 : decode cX11_say 27 = .ok (.ifCond .eq 62, 3) := by decide +kernel
theorem dX11_say_30 : decode cX11_say 30 = .ok (.aload_n 0, 1) := by decide +kernel
theorem dX11_say_31 : decode cX11_say 31 = .ok (.getfield 56, 3) := by decide +kernel
theorem dX11_say_34 : decode cX11_say 34 = .ok (.iload_n 2, 1) := by decide +kernel
theorem dX11_say_35 : decode cX11_say 35 = .ok (.iload_n 3, 1) := by decide +kernel
theorem dX11_say_36 : decode cX11_say 36 = .ok (.invokevirtual 160, 3) := by decide +kernel
theorem dX11_say_39 : decode cX11_say 39 = .ok (.aload_n 0, 1) := by decide +kernel
theorem dX11_say_40 : decode cX11_say 40 = .ok (.getfield 56, 3) := by decide +kernel
theorem dX11_say_43 : decode cX11_say 43 = .ok (.aload_n 0, 1) := by decide +kernel
theorem dX11_say_44 : decode cX11_say 44 = .ok (.getfield 47, 3) := by decide +kernel
theorem dX11_say_47 : decode cX11_say 47 = .ok (.iload_n 2, 1) := by decide +kernel
theorem dX11_say_48 : decode cX11_say 48 = .ok (.iload_n 3, 1) := by decide +kernel
theorem dX11_say_49 : decode cX11_say 49 = .ok (.invokevirtual 182, 3) := by decide +kernel
theorem dX11_say_52 : decode cX11_say 52 = .ok (.istore 4, 2) := by decide +kernel
theorem dX11_say_54 : decode cX11_say 54 = .ok (.iload 4, 2) := by decide +kernel
theorem dX11_say_56 : decode cX11_say 56 = .ok (.iconst (-1), 1) := by decide +kernel
theorem dX11_say_57 : decode cX11_say 57 = .ok (.if_icmp .ne 14, 3) := by decide +kernel
theorem dX11_say_60 : decode cX11_say 60 = .ok (.aload_n 0, 1) := by decide +kernel
theorem dX11_say_61 : decode cX11_say 61 = .ok (.getfield 38, 3) := by decide +kernel
theorem dX11_say_64 : decode cX11_say 64 = .ok (.iconst 3, 1) := by decide +kernel
theorem dX11_say_65 : decode cX11_say 65 = .ok (.invokevirtual 186, 3) := by decide +kernel
theorem dX11_say_68 : decode cX11_say 68 = .ok (.goto 21, 3) := by decide +kernel
theorem dX11_say_71 : decode cX11_say 71 = .ok (.aload_n 0, 1) := by decide +kernel
theorem dX11_say_72 : decode cX11_say 72 = .ok (.getfield 56, 3) := by decide +kernel
theorem dX11_say_75 : decode cX11_say 75 = .ok (.getfield 189, 3) := by decide +kernel
theorem dX11_say_78 : decode cX11_say 78 = .ok (.ifCond .ne 11, 3) := by decide +kernel
theorem dX11_say_81 : decode cX11_say 81 = .ok (.aload_n 0, 1) := by decide +kernel
theorem dX11_say_82 : decode cX11_say 82 = .ok (.getfield 38, 3) := by decide +kernel
theorem dX11_say_85 : decode cX11_say 85 = .ok (.iconst 4, 1) := by decide +kernel
theorem dX11_say_86 : decode cX11_say 86 = .ok (.invokevirtual 186, 3) := by decide +kernel
theorem dX11_say_89 : decode cX11_say 89 = .ok (.aload_n 0, 1) := by decide +kernel
theorem dX11_say_90 : decode cX11_say 90 = .ok (.getfield 10, 3) := by decide +kernel
theorem dX11_say_93 : decode cX11_say 93 = .ok (.iconst 0, 1) := by decide +kernel
theorem dX11_say_94 : decode cX11_say 94 = .ok (.putfield 84, 3) := by decide +kernel
theorem dX11_say_97 : decode cX11_say 97 = .ok (.aload_n 0, 1) := by decide +kernel
theorem dX11_say_98 : decode cX11_say 98 = .ok (.getfield 38, 3) := by decide +kernel
theorem dX11_say_101 : decode cX11_say 101 = .ok (.getfield 120, 3) := by decide +kernel
theorem dX11_say_104 : decode cX11_say 104 = .ok (.ifCond .ne 8, 3) := by decide +kernel
theorem dX11_say_107 : decode cX11_say 107 = .ok (.iload 4, 2) := by decide +kernel
theorem dX11_say_109 : decode cX11_say 109 = .ok (.goto 12, 3) := by decide +kernel
theorem dX11_say_112 : decode cX11_say 112 = .ok (.iconst (-1), 1) := by decide +kernel
theorem dX11_say_113 : decode cX11_say 113 = .ok (.aload_n 0, 1) := by decide +kernel
theorem dX11_say_114 : decode cX11_say 114 = .ok (.getfield 38, 3) := by decide +kernel
theorem dX11_say_117 : decode cX11_say 117 = .ok (.getfield 120, 3) := by decide +kernel
theorem dX11_say_120 : decode cX11_say 120 = .ok (.isub, 1) := by decide +kernel
theorem dX11_say_121 : decode cX11_say 121 = .ok (.ireturn, 1) := by decide +kernel
theorem dX11_back_0 : decode cX11_back 0 = .ok (.aload_n 0, 1) := by decide +kernel
theorem dX11_back_1 : decode cX11_back 1 = .ok (.getfield 63, 3) := by decide +kernel
theorem dX11_back_4 : decode cX11_back 4 = .ok (.invokevirtual 95, 3) := by decide +kernel
theorem dX11_back_7 : decode cX11_back 7 = .ok (.ifCond .ne 17, 3) := by decide +kernel
theorem dX11_back_10 : decode cX11_back 10 = .ok (.aload_n 0, 1) := by decide +kernel
theorem dX11_back_11 : decode cX11_back 11 = .ok (.getfield 29, 3) := by decide +kernel
theorem dX11_back_14 : decode cX11_back 14 = .ok (.aload_n 0, 1) := by decide +kernel
theorem dX11_back_15 : decode cX11_back 15 = .ok (.getfield 22, 3) := by decide +kernel
theorem dX11_back_18 : decode cX11_back 18 = .ok (.invokevirtual 193, 3) := by decide +kernel
theorem dX11_back_21 : decode cX11_back 21 = .ok (.ifCond .ne 5, 3) := by decide +kernel
theorem dX11_back_24 : decode cX11_back 24 = .ok (.iconst 0, 1) := by decide +kernel
theorem dX11_back_25 : decode cX11_back 25 = .ok (.ireturn, 1) := by decide +kernel
theorem dX11_back_26 : decode cX11_back 26 = .ok (.aload_n 0, 1) := by decide +kernel
theorem dX11_back_27 : decode cX11_back 27 = .ok (.getfield 56, 3) := by decide +kernel
theorem dX11_back_30 : decode cX11_back 30 = .ok (.invokevirtual 117, 3) := by decide +kernel
theorem dX11_back_33 : decode cX11_back 33 = .ok (.iconst 1, 1) := by decide +kernel
theorem dX11_back_34 : decode cX11_back 34 = .ok (.ireturn, 1) := by decide +kernel
theorem dX11_begin_0 : decode cX11_begin 0 = .ok (.iload_n 1, 1) := by decide +kernel
theorem dX11_begin_1 : decode cX11_begin 1 = .ok (.ifCond .lt 9, 3) := by decide +kernel
theorem dX11_begin_4 : decode cX11_begin 4 = .ok (.iload_n 1, 1) := by decide +kernel
theorem dX11_begin_5 : decode cX11_begin 5 = .ok (.bipush 25, 2) := by decide +kernel
theorem dX11_begin_7 : decode cX11_begin 7 = .ok (.if_icmp .le 13, 3) := by decide +kernel
theorem dX11_begin_10 : decode cX11_begin 10 = .ok (.new 149, 3) := by decide +kernel
theorem dX11_begin_13 : decode cX11_begin 13 = .ok (.dup, 1) := by decide +kernel
theorem dX11_begin_14 : decode cX11_begin 14 = .ok (.ldc 197, 2) := by decide +kernel
theorem dX11_begin_16 : decode cX11_begin 16 = .ok (.invokespecial 153, 3) := by decide +kernel
theorem dX11_begin_19 : decode cX11_begin 19 = .ok (.athrow, 1) := by decide +kernel
theorem dX11_begin_20 : decode cX11_begin 20 = .ok (.aload_n 0, 1) := by decide +kernel
theorem dX11_begin_21 : decode cX11_begin 21 = .ok (.getfield 63, 3) := by decide +kernel
theorem dX11_begin_24 : decode cX11_begin 24 = .ok (.iload_n 1, 1) := by decide +kernel
theorem dX11_begin_25 : decode cX11_begin 25 = .ok (.invokevirtual 199, 3) := by decide +kernel
theorem dX11_begin_28 : decode cX11_begin 28 = .ok (.aload_n 0, 1) := by decide +kernel
theorem dX11_begin_29 : decode cX11_begin 29 = .ok (.getfield 29, 3) := by decide +kernel
theorem dX11_begin_32 : decode cX11_begin 32 = .ok (.invokevirtual 202, 3) := by decide +kernel
theorem dX11_begin_35 : decode cX11_begin 35 = .ok (.aload_n 0, 1) := by decide +kernel
theorem dX11_begin_36 : decode cX11_begin 36 = .ok (.invokevirtual 203, 3) := by decide +kernel
theorem dX11_begin_39 : decode cX11_begin 39 = .ok (.return_, 1) := by decide +kernel
theorem dX11_roll_0 : decode cX11_roll 0 = .ok (.iload_n 1, 1) := by decide +kernel
theorem dX11_roll_1 : decode cX11_roll 1 = .ok (.iload_n 2, 1) := by decide +kernel
theorem dX11_roll_2 : decode cX11_roll 2 = .ok (.invokestatic 154, 3) := by decide +kernel
theorem dX11_roll_5 : decode cX11_roll 5 = .ok (.aload_n 0, 1) := by decide +kernel
theorem dX11_roll_6 : decode cX11_roll 6 = .ok (.getfield 63, 3) := by decide +kernel
theorem dX11_roll_9 : decode cX11_roll 9 = .ok (.getfield 206, 3) := by decide +kernel
theorem dX11_roll_12 : decode cX11_roll 12 = .ok (.iconst 1, 1) := by decide +kernel
theorem dX11_roll_13 : decode cX11_roll 13 = .ok (.if_icmp .ne 19, 3) := by decide +kernel
theorem dX11_roll_16 : decode cX11_roll 16 = .ok (.aload_n 0, 1) := by decide +kernel
theorem dX11_roll_17 : decode cX11_roll 17 = .ok (.getfield 63, 3) := by decide +kernel
theorem dX11_roll_20 : decode cX11_roll 20 = .ok (.iload_n 1, 1) := by decide +kernel
theorem dX11_roll_21 : decode cX11_roll 21 = .ok (.iload_n 2, 1) := by decide +kernel
theorem dX11_roll_22 : decode cX11_roll 22 = .ok (.aload_n 0, 1) := by decide +kernel
theorem dX11_roll_23 : decode cX11_roll 23 = .ok (.getfield 22, 3) := by decide +kernel
theorem dX11_roll_26 : decode cX11_roll 26 = .ok (.invokevirtual 209, 3) := by decide +kernel
theorem dX11_roll_29 : decode cX11_roll 29 = .ok (.goto 36, 3) := by decide +kernel
theorem dX11_roll_32 : decode cX11_roll 32 = .ok (.aload_n 0, 1) := by decide +kernel
theorem dX11_roll_33 : decode cX11_roll 33 = .ok (.getfield 63, 3) := by decide +kernel
theorem dX11_roll_36 : decode cX11_roll 36 = .ok (.getfield 206, 3) := by decide +kernel
theorem dX11_roll_39 : decode cX11_roll 39 = .ok (.iconst 2, 1) := by decide +kernel
theorem dX11_roll_40 : decode cX11_roll 40 = .ok (.if_icmp .ne 15, 3) := by decide +kernel
theorem dX11_roll_43 : decode cX11_roll 43 = .ok (.aload_n 0, 1) := by decide +kernel
theorem dX11_roll_44 : decode cX11_roll 44 = .ok (.getfield 63, 3) := by decide +kernel
theorem dX11_roll_47 : decode cX11_roll 47 = .ok (.iload_n 1, 1) := by decide +kernel
theorem dX11_roll_48 : decode cX11_roll 48 = .ok (.iload_n 2, 1) := by decide +kernel
theorem dX11_roll_49 : decode cX11_roll 49 = .ok (.invokevirtual 213, 3) := by decide +kernel
theorem dX11_roll_52 : decode cX11_roll 52 = .ok (.goto 13, 3) := by decide +kernel
theorem dX11_roll_55 : decode cX11_roll 55 = .ok (.new 99, 3) := by decide +kernel
theorem dX11_roll_58 : decode cX11_roll 58 = .ok (.dup, 1) := by decide +kernel
theorem dX11_roll_59 : decode cX11_roll 59 = .ok (.ldc 216, 2) := by decide +kernel
theorem dX11_roll_61 : decode cX11_roll 61 = .ok (.invokespecial 103, 3) := by decide +kernel
theorem dX11_roll_64 : decode cX11_roll 64 = .ok (.athrow, 1) := by decide +kernel
theorem dX11_roll_65 : decode cX11_roll 65 = .ok (.aload_n 0, 1) := by decide +kernel
theorem dX11_roll_66 : decode cX11_roll 66 = .ok (.getfield 63, 3) := by decide +kernel
theorem dX11_roll_69 : decode cX11_roll 69 = .ok (.getfield 206, 3) := by decide +kernel
theorem dX11_roll_72 : decode cX11_roll 72 = .ok (.ireturn, 1) := by decide +kernel
theorem dX11_offer_0 : decode cX11_offer 0 = .ok (.aload_n 0, 1) := by decide +kernel
theorem dX11_offer_1 : decode cX11_offer 1 = .ok (.getfield 63, 3) := by decide +kernel
theorem dX11_offer_4 : decode cX11_offer 4 = .ok (.aload_n 0, 1) := by decide +kernel
theorem dX11_offer_5 : decode cX11_offer 5 = .ok (.getfield 22, 3) := by decide +kernel
theorem dX11_offer_8 : decode cX11_offer 8 = .ok (.getfield 134, 3) := by decide +kernel
theorem dX11_offer_11 : decode cX11_offer 11 = .ok (.invokevirtual 218, 3) := by decide +kernel
theorem dX11_offer_14 : decode cX11_offer 14 = .ok (.ifCond .ne 13, 3) := by decide +kernel
theorem dX11_offer_17 : decode cX11_offer 17 = .ok (.new 99, 3) := by decide +kernel
theorem dX11_offer_20 : decode cX11_offer 20 = .ok (.dup, 1) := by decide +kernel
theorem dX11_offer_21 : decode cX11_offer 21 = .ok (.ldc 221, 2) := by decide +kernel
theorem dX11_offer_23 : decode cX11_offer 23 = .ok (.invokespecial 103, 3) := by decide +kernel
theorem dX11_offer_26 : decode cX11_offer 26 = .ok (.athrow, 1) := by decide +kernel
theorem dX11_offer_27 : decode cX11_offer 27 = .ok (.aload_n 0, 1) := by decide +kernel
theorem dX11_offer_28 : decode cX11_offer 28 = .ok (.getfield 63, 3) := by decide +kernel
theorem dX11_offer_31 : decode cX11_offer 31 = .ok (.iconst 4, 1) := by decide +kernel
theorem dX11_offer_32 : decode cX11_offer 32 = .ok (.putfield 206, 3) := by decide +kernel
theorem dX11_offer_35 : decode cX11_offer 35 = .ok (.iconst 2, 1) := by decide +kernel
theorem dX11_offer_36 : decode cX11_offer 36 = .ok (.aload_n 0, 1) := by decide +kernel
theorem dX11_offer_37 : decode cX11_offer 37 = .ok (.getfield 63, 3) := by decide +kernel
theorem dX11_offer_40 : decode cX11_offer 40 = .ok (.getfield 223, 3) := by decide +kernel
theorem dX11_offer_43 : decode cX11_offer 43 = .ok (.imul, 1) := by decide +kernel
theorem dX11_offer_44 : decode cX11_offer 44 = .ok (.ireturn, 1) := by decide +kernel
theorem dX11_answer_0 : decode cX11_answer 0 = .ok (.aload_n 0, 1) := by decide +kernel
theorem dX11_answer_1 : decode cX11_answer 1 = .ok (.getfield 63, 3) := by decide +kernel
theorem dX11_answer_4 : decode cX11_answer 4 = .ok (.getfield 206, 3) := by decide +kernel
theorem dX11_answer_7 : decode cX11_answer 7 = .ok (.iconst 4, 1) := by decide +kernel
theorem dX11_answer_8 : decode cX11_answer 8 = .ok (.if_icmp .eq 13, 3) := by decide +kernel
theorem dX11_answer_11 : decode cX11_answer 11 = .ok (.new 99, 3) := by decide +kernel
theorem dX11_answer_14 : decode cX11_answer 14 = .ok (.dup, 1) := by decide +kernel
theorem dX11_answer_15 : decode cX11_answer 15 = .ok (.ldc 226, 2) := by decide +kernel
theorem dX11_answer_17 : decode cX11_answer 17 = .ok (.invokespecial 103, 3) := by decide +kernel
theorem dX11_answer_20 : decode cX11_answer 20 = .ok (.athrow, 1) := by decide +kernel
theorem dX11_answer_21 : decode cX11_answer 21 = .ok (.iload_n 1, 1) := by decide +kernel
theorem dX11_answer_22 : decode cX11_answer 22 = .ok (.ifCond .eq 20, 3) := by decide +kernel
theorem dX11_answer_25 : decode cX11_answer 25 = .ok (.aload_n 0, 1) := by decide +kernel
theorem dX11_answer_26 : decode cX11_answer 26 = .ok (.getfield 63, 3) := by decide +kernel
theorem dX11_answer_29 : decode cX11_answer 29 = .ok (.aload_n 0, 1) := by decide +kernel
theorem dX11_answer_30 : decode cX11_answer 30 = .ok (.getfield 22, 3) := by decide +kernel
theorem dX11_answer_33 : decode cX11_answer 33 = .ok (.getfield 134, 3) := by decide +kernel
theorem dX11_answer_36 : decode cX11_answer 36 = .ok (.invokevirtual 228, 3) := by decide +kernel
theorem dX11_answer_39 : decode cX11_answer 39 = .ok (.goto 24, 3) := by decide +kernel
theorem dX11_answer_42 : decode cX11_answer 42 = .ok (.aload_n 0, 1) := by decide +kernel
theorem dX11_answer_43 : decode cX11_answer 43 = .ok (.getfield 63, 3) := by decide +kernel
theorem dX11_answer_46 : decode cX11_answer 46 = .ok (.aload_n 0, 1) := by decide +kernel
theorem dX11_answer_47 : decode cX11_answer 47 = .ok (.getfield 22, 3) := by decide +kernel
theorem dX11_answer_50 : decode cX11_answer 50 = .ok (.getfield 134, 3) := by decide +kernel
theorem dX11_answer_53 : decode cX11_answer 53 = .ok (.aload_n 0, 1) := by decide +kernel
theorem dX11_answer_54 : decode cX11_answer 54 = .ok (.getfield 63, 3) := by decide +kernel
theorem dX11_answer_57 : decode cX11_answer 57 = .ok (.getfield 223, 3) := by decide +kernel
theorem dX11_answer_60 : decode cX11_answer 60 = .ok (.invokevirtual 231, 3) := by decide +kernel
theorem dX11_answer_63 : decode cX11_answer 63 = .ok (.aload_n 0, 1) := by decide +kernel
theorem dX11_answer_64 : decode cX11_answer 64 = .ok (.getfield 63, 3) := by decide +kernel
theorem dX11_answer_67 : decode cX11_answer 67 = .ok (.getfield 206, 3) := by decide +kernel
theorem dX11_answer_70 : decode cX11_answer 70 = .ok (.ireturn, 1) := by decide +kernel
theorem dX11_next_0 : decode cX11_next 0 = .ok (.aload_n 0, 1) := by decide +kernel
theorem dX11_next_1 : decode cX11_next 1 = .ok (.getfield 63, 3) := by decide +kernel
theorem dX11_next_4 : decode cX11_next 4 = .ok (.getfield 206, 3) := by decide +kernel
theorem dX11_next_7 : decode cX11_next 7 = .ok (.iconst 5, 1) := by decide +kernel
theorem dX11_next_8 : decode cX11_next 8 = .ok (.if_icmp .eq 13, 3) := by decide +kernel
theorem dX11_next_11 : decode cX11_next 11 = .ok (.new 99, 3) := by decide +kernel
theorem dX11_next_14 : decode cX11_next 14 = .ok (.dup, 1) := by decide +kernel
theorem dX11_next_15 : decode cX11_next 15 = .ok (.ldc 234, 2) := by decide +kernel
theorem dX11_next_17 : decode cX11_next 17 = .ok (.invokespecial 103, 3) := by decide +kernel
theorem dX11_next_20 : decode cX11_next 20 = .ok (.athrow, 1) := by decide +kernel
theorem dX11_next_21 : decode cX11_next 21 = .ok (.aload_n 0, 1) := by decide +kernel
theorem dX11_next_22 : decode cX11_next 22 = .ok (.invokevirtual 203, 3) := by decide +kernel
theorem dX11_next_25 : decode cX11_next 25 = .ok (.return_, 1) := by decide +kernel
theorem dX11_match_0 : decode cX11_match 0 = .ok (.iload_n 1, 1) := by decide +kernel
theorem dX11_match_1 : decode cX11_match 1 = .ok (.ifCond .lt 9, 3) := by decide +kernel
theorem dX11_match_4 : decode cX11_match 4 = .ok (.iload_n 1, 1) := by decide +kernel
theorem dX11_match_5 : decode cX11_match 5 = .ok (.bipush 11, 2) := by decide +kernel
theorem dX11_match_7 : decode cX11_match 7 = .ok (.if_icmp .le 13, 3) := by decide +kernel
theorem dX11_match_10 : decode cX11_match 10 = .ok (.new 149, 3) := by decide +kernel
theorem dX11_match_13 : decode cX11_match 13 = .ok (.dup, 1) := by decide +kernel
theorem dX11_match_14 : decode cX11_match 14 = .ok (.ldc 151, 2) := by decide +kernel
theorem dX11_match_16 : decode cX11_match 16 = .ok (.invokespecial 153, 3) := by decide +kernel
theorem dX11_match_19 : decode cX11_match 19 = .ok (.athrow, 1) := by decide +kernel
theorem dX11_match_20 : decode cX11_match 20 = .ok (.aload_n 0, 1) := by decide +kernel
theorem dX11_match_21 : decode cX11_match 21 = .ok (.getfield 63, 3) := by decide +kernel
theorem dX11_match_24 : decode cX11_match 24 = .ok (.iload_n 1, 1) := by decide +kernel
theorem dX11_match_25 : decode cX11_match 25 = .ok (.invokevirtual 236, 3) := by decide +kernel
theorem dX11_match_28 : decode cX11_match 28 = .ok (.ireturn, 1) := by decide +kernel
theorem dX11_learn_0 : decode cX11_learn 0 = .ok (.aload_n 0, 1) := by decide +kernel
theorem dX11_learn_1 : decode cX11_learn 1 = .ok (.getfield 146, 3) := by decide +kernel
theorem dX11_learn_4 : decode cX11_learn 4 = .ok (.bipush 90, 2) := by decide +kernel
theorem dX11_learn_6 : decode cX11_learn 6 = .ok (.if_icmp .lt 13, 3) := by decide +kernel
theorem dX11_learn_9 : decode cX11_learn 9 = .ok (.new 99, 3) := by decide +kernel
theorem dX11_learn_12 : decode cX11_learn 12 = .ok (.dup, 1) := by decide +kernel
theorem dX11_learn_13 : decode cX11_learn 13 = .ok (.ldc 239, 2) := by decide +kernel
theorem dX11_learn_15 : decode cX11_learn 15 = .ok (.invokespecial 103, 3) := by decide +kernel
theorem dX11_learn_18 : decode cX11_learn 18 = .ok (.athrow, 1) := by decide +kernel
theorem dX11_learn_19 : decode cX11_learn 19 = .ok (.aload_n 0, 1) := by decide +kernel
theorem dX11_learn_20 : decode cX11_learn 20 = .ok (.dup, 1) := by decide +kernel
theorem dX11_learn_21 : decode cX11_learn 21 = .ok (.getfield 146, 3) := by decide +kernel
theorem dX11_learn_24 : decode cX11_learn 24 = .ok (.iconst 1, 1) := by decide +kernel
theorem dX11_learn_25 : decode cX11_learn 25 = .ok (.iadd, 1) := by decide +kernel
theorem dX11_learn_26 : decode cX11_learn 26 = .ok (.putfield 146, 3) := by decide +kernel
theorem dX11_learn_29 : decode cX11_learn 29 = .ok (.bipush 6, 2) := by decide +kernel
theorem dX11_learn_31 : decode cX11_learn 31 = .ok (.bipush 15, 2) := by decide +kernel
theorem dX11_learn_33 : decode cX11_learn 33 = .ok (.aload_n 0, 1) := by decide +kernel
theorem dX11_learn_34 : decode cX11_learn 34 = .ok (.getfield 146, 3) := by decide +kernel
theorem dX11_learn_37 : decode cX11_learn 37 = .ok (.invokestatic 241, 3) := by decide +kernel
theorem dX11_learn_40 : decode cX11_learn 40 = .ok (.ireturn, 1) := by decide +kernel
theorem dX11_rolls_0 : decode cX11_rolls 0 = .ok (.iload_n 1, 1) := by decide +kernel
theorem dX11_rolls_1 : decode cX11_rolls 1 = .ok (.invokestatic 244, 3) := by decide +kernel
theorem dX11_rolls_4 : decode cX11_rolls 4 = .ok (.aload_n 0, 1) := by decide +kernel
theorem dX11_rolls_5 : decode cX11_rolls 5 = .ok (.iload_n 1, 1) := by decide +kernel
theorem dX11_rolls_6 : decode cX11_rolls 6 = .ok (.invokevirtual 247, 3) := by decide +kernel
theorem dX11_rolls_9 : decode cX11_rolls 9 = .ok (.aload_n 0, 1) := by decide +kernel
theorem dX11_rolls_10 : decode cX11_rolls 10 = .ok (.getfield 70, 3) := by decide +kernel
theorem dX11_rolls_13 : decode cX11_rolls 13 = .ok (.iload_n 1, 1) := by decide +kernel
theorem dX11_rolls_14 : decode cX11_rolls 14 = .ok (.invokevirtual 250, 3) := by decide +kernel
theorem dX11_rolls_17 : decode cX11_rolls 17 = .ok (.aload_n 0, 1) := by decide +kernel
theorem dX11_rolls_18 : decode cX11_rolls 18 = .ok (.getfield 70, 3) := by decide +kernel
theorem dX11_rolls_21 : decode cX11_rolls 21 = .ok (.iload_n 1, 1) := by decide +kernel
theorem dX11_rolls_22 : decode cX11_rolls 22 = .ok (.aload_n 0, 1) := by decide +kernel
theorem dX11_rolls_23 : decode cX11_rolls 23 = .ok (.getfield 77, 3) := by decide +kernel
theorem dX11_rolls_26 : decode cX11_rolls 26 = .ok (.getfield 252, 3) := by decide +kernel
theorem dX11_rolls_29 : decode cX11_rolls 29 = .ok (.invokevirtual 256, 3) := by decide +kernel
theorem dX11_rolls_32 : decode cX11_rolls 32 = .ok (.aload_n 0, 1) := by decide +kernel
theorem dX11_rolls_33 : decode cX11_rolls 33 = .ok (.getfield 77, 3) := by decide +kernel
theorem dX11_rolls_36 : decode cX11_rolls 36 = .ok (.bipush 32, 2) := by decide +kernel
theorem dX11_rolls_38 : decode cX11_rolls 38 = .ok (.invokevirtual 260, 3) := by decide +kernel
theorem dX11_rolls_41 : decode cX11_rolls 41 = .ok (.aload_n 0, 1) := by decide +kernel
theorem dX11_rolls_42 : decode cX11_rolls 42 = .ok (.getfield 16, 3) := by decide +kernel
theorem dX11_rolls_45 : decode cX11_rolls 45 = .ok (.getfield 84, 3) := by decide +kernel
theorem dX11_rolls_48 : decode cX11_rolls 48 = .ok (.ireturn, 1) := by decide +kernel
theorem dX11_best_0 : decode cX11_best 0 = .ok (.iload_n 1, 1) := by decide +kernel
theorem dX11_best_1 : decode cX11_best 1 = .ok (.invokestatic 244, 3) := by decide +kernel
theorem dX11_best_4 : decode cX11_best 4 = .ok (.iload_n 2, 1) := by decide +kernel
theorem dX11_best_5 : decode cX11_best 5 = .ok (.iload_n 3, 1) := by decide +kernel
theorem dX11_best_6 : decode cX11_best 6 = .ok (.invokestatic 154, 3) := by decide +kernel
theorem dX11_best_9 : decode cX11_best 9 = .ok (.aload_n 0, 1) := by decide +kernel
theorem dX11_best_10 : decode cX11_best 10 = .ok (.iload_n 1, 1) := by decide +kernel
theorem dX11_best_11 : decode cX11_best 11 = .ok (.invokevirtual 247, 3) := by decide +kernel
theorem dX11_best_14 : decode cX11_best 14 = .ok (.aload_n 0, 1) := by decide +kernel
theorem dX11_best_15 : decode cX11_best 15 = .ok (.getfield 70, 3) := by decide +kernel
theorem dX11_best_18 : decode cX11_best 18 = .ok (.iload_n 1, 1) := by decide +kernel
theorem dX11_best_19 : decode cX11_best 19 = .ok (.invokevirtual 250, 3) := by decide +kernel
theorem dX11_best_22 : decode cX11_best 22 = .ok (.aload_n 0, 1) := by decide +kernel
theorem dX11_best_23 : decode cX11_best 23 = .ok (.getfield 70, 3) := by decide +kernel
theorem dX11_best_26 : decode cX11_best 26 = .ok (.iload_n 1, 1) := by decide +kernel
theorem dX11_best_27 : decode cX11_best 27 = .ok (.iload_n 2, 1) := by decide +kernel
theorem dX11_best_28 : decode cX11_best 28 = .ok (.iload_n 3, 1) := by decide +kernel
theorem dX11_best_29 : decode cX11_best 29 = .ok (.invokevirtual 263, 3) := by decide +kernel
theorem dX11_best_32 : decode cX11_best 32 = .ok (.ireturn, 1) := by decide +kernel
theorem dX11_within_0 : decode cX11_within 0 = .ok (.iload_n 1, 1) := by decide +kernel
theorem dX11_within_1 : decode cX11_within 1 = .ok (.invokestatic 244, 3) := by decide +kernel
theorem dX11_within_4 : decode cX11_within 4 = .ok (.iload_n 2, 1) := by decide +kernel
theorem dX11_within_5 : decode cX11_within 5 = .ok (.ifCond .lt 9, 3) := by decide +kernel
theorem dX11_within_8 : decode cX11_within 8 = .ok (.iload_n 2, 1) := by decide +kernel
theorem dX11_within_9 : decode cX11_within 9 = .ok (.bipush 12, 2) := by decide +kernel
theorem dX11_within_11 : decode cX11_within 11 = .ok (.if_icmp .le 14, 3) := by decide +kernel
theorem dX11_within_14 : decode cX11_within 14 = .ok (.new 149, 3) := by decide +kernel
theorem dX11_within_17 : decode cX11_within 17 = .ok (.dup, 1) := by decide +kernel
theorem dX11_within_18 : decode cX11_within 18 = .ok (.ldc_w 266, 3) := by decide +kernel
theorem dX11_within_21 : decode cX11_within 21 = .ok (.invokespecial 153, 3) := by decide +kernel
theorem dX11_within_24 : decode cX11_within 24 = .ok (.athrow, 1) := by decide +kernel
theorem dX11_within_25 : decode cX11_within 25 = .ok (.aload_n 0, 1) := by decide +kernel
theorem dX11_within_26 : decode cX11_within 26 = .ok (.iload_n 1, 1) := by decide +kernel
theorem dX11_within_27 : decode cX11_within 27 = .ok (.invokevirtual 247, 3) := by decide +kernel
theorem dX11_within_30 : decode cX11_within 30 = .ok (.aload_n 0, 1) := by decide +kernel
theorem dX11_within_31 : decode cX11_within 31 = .ok (.getfield 70, 3) := by decide +kernel
theorem dX11_within_34 : decode cX11_within 34 = .ok (.iload_n 1, 1) := by decide +kernel
theorem dX11_within_35 : decode cX11_within 35 = .ok (.invokevirtual 250, 3) := by decide +kernel
theorem dX11_within_38 : decode cX11_within 38 = .ok (.aload_n 0, 1) := by decide +kernel
theorem dX11_within_39 : decode cX11_within 39 = .ok (.getfield 77, 3) := by decide +kernel
theorem dX11_within_42 : decode cX11_within 42 = .ok (.getfield 252, 3) := by decide +kernel
theorem dX11_within_45 : decode cX11_within 45 = .ok (.aload_n 0, 1) := by decide +kernel
theorem dX11_within_46 : decode cX11_within 46 = .ok (.getfield 70, 3) := by decide +kernel
theorem dX11_within_49 : decode cX11_within 49 = .ok (.iload_n 1, 1) := by decide +kernel
theorem dX11_within_50 : decode cX11_within 50 = .ok (.iload_n 2, 1) := by decide +kernel
theorem dX11_within_51 : decode cX11_within 51 = .ok (.invokevirtual 268, 3) := by decide +kernel
theorem dX11_within_54 : decode cX11_within 54 = .ok (.invokevirtual 272, 3) := by decide +kernel
theorem dX11_within_57 : decode cX11_within 57 = .ok (.aload_n 0, 1) := by decide +kernel
theorem dX11_within_58 : decode cX11_within 58 = .ok (.getfield 77, 3) := by decide +kernel
theorem dX11_within_61 : decode cX11_within 61 = .ok (.iload_n 2, 1) := by decide +kernel
theorem dX11_within_62 : decode cX11_within 62 = .ok (.invokevirtual 260, 3) := by decide +kernel
theorem dX11_within_65 : decode cX11_within 65 = .ok (.aload_n 0, 1) := by decide +kernel
theorem dX11_within_66 : decode cX11_within 66 = .ok (.getfield 16, 3) := by decide +kernel
theorem dX11_within_69 : decode cX11_within 69 = .ok (.getfield 84, 3) := by decide +kernel
theorem dX11_within_72 : decode cX11_within 72 = .ok (.ireturn, 1) := by decide +kernel
theorem dX11_race_0 : decode cX11_race 0 = .ok (.iload_n 1, 1) := by decide +kernel
theorem dX11_race_1 : decode cX11_race 1 = .ok (.invokestatic 244, 3) := by decide +kernel
theorem dX11_race_4 : decode cX11_race 4 = .ok (.iload_n 2, 1) := by decide +kernel
theorem dX11_race_5 : decode cX11_race 5 = .ok (.invokestatic 244, 3) := by decide +kernel
theorem dX11_race_8 : decode cX11_race 8 = .ok (.aload_n 0, 1) := by decide +kernel
theorem dX11_race_9 : decode cX11_race 9 = .ok (.iload_n 1, 1) := by decide +kernel
theorem dX11_race_10 : decode cX11_race 10 = .ok (.invokevirtual 247, 3) := by decide +kernel
theorem dX11_race_13 : decode cX11_race 13 = .ok (.aload_n 0, 1) := by decide +kernel
theorem dX11_race_14 : decode cX11_race 14 = .ok (.iload_n 2, 1) := by decide +kernel
theorem dX11_race_15 : decode cX11_race 15 = .ok (.invokevirtual 247, 3) := by decide +kernel
theorem dX11_race_18 : decode cX11_race 18 = .ok (.aload_n 0, 1) := by decide +kernel
theorem dX11_race_19 : decode cX11_race 19 = .ok (.getfield 70, 3) := by decide +kernel
theorem dX11_race_22 : decode cX11_race 22 = .ok (.iload_n 1, 1) := by decide +kernel
theorem dX11_race_23 : decode cX11_race 23 = .ok (.invokevirtual 250, 3) := by decide +kernel
theorem dX11_race_26 : decode cX11_race 26 = .ok (.aload_n 0, 1) := by decide +kernel
theorem dX11_race_27 : decode cX11_race 27 = .ok (.getfield 70, 3) := by decide +kernel
theorem dX11_race_30 : decode cX11_race 30 = .ok (.iload_n 2, 1) := by decide +kernel
theorem dX11_race_31 : decode cX11_race 31 = .ok (.invokevirtual 250, 3) := by decide +kernel
theorem dX11_race_34 : decode cX11_race 34 = .ok (.aload_n 0, 1) := by decide +kernel
theorem dX11_race_35 : decode cX11_race 35 = .ok (.getfield 70, 3) := by decide +kernel
theorem dX11_race_38 : decode cX11_race 38 = .ok (.iload_n 1, 1) := by decide +kernel
theorem dX11_race_39 : decode cX11_race 39 = .ok (.invokevirtual 278, 3) := by decide +kernel
theorem dX11_race_42 : decode cX11_race 42 = .ok (.ifCond .eq 14, 3) := by decide +kernel
theorem dX11_race_45 : decode cX11_race 45 = .ok (.aload_n 0, 1) := by decide +kernel
theorem dX11_race_46 : decode cX11_race 46 = .ok (.getfield 70, 3) := by decide +kernel
theorem dX11_race_49 : decode cX11_race 49 = .ok (.iload_n 2, 1) := by decide +kernel
theorem dX11_race_50 : decode cX11_race 50 = .ok (.invokevirtual 278, 3) := by decide +kernel
theorem dX11_race_53 : decode cX11_race 53 = .ok (.ifCond .ne 14, 3) := by decide +kernel
theorem dX11_race_56 : decode cX11_race 56 = .ok (.new 99, 3) := by decide +kernel
theorem dX11_race_59 : decode cX11_race 59 = .ok (.dup, 1) := by decide +kernel
theorem dX11_race_60 : decode cX11_race 60 = .ok (.ldc_w 281, 3) := by decide +kernel
theorem dX11_race_63 : decode cX11_race 63 = .ok (.invokespecial 103, 3) := by decide +kernel
theorem dX11_race_66 : decode cX11_race 66 = .ok (.athrow, 1) := by decide +kernel
theorem dX11_race_67 : decode cX11_race 67 = .ok (.iload_n 1, 1) := by decide +kernel
theorem dX11_race_68 : decode cX11_race 68 = .ok (.ifCond .ne 18, 3) := by decide +kernel
theorem dX11_race_71 : decode cX11_race 71 = .ok (.iload_n 2, 1) := by decide +kernel
theorem dX11_race_72 : decode cX11_race 72 = .ok (.ifCond .ne 14, 3) := by decide +kernel
theorem dX11_race_75 : decode cX11_race 75 = .ok (.new 283, 3) := by decide +kernel
theorem dX11_race_78 : decode cX11_race 78 = .ok (.dup, 1) := by decide +kernel
theorem dX11_race_79 : decode cX11_race 79 = .ok (.ldc_w 285, 3) := by decide +kernel
theorem dX11_race_82 : decode cX11_race 82 = .ok (.invokespecial 287, 3) := by decide +kernel
theorem dX11_race_85 : decode cX11_race 85 = .ok (.athrow, 1) := by decide +kernel
theorem dX11_race_86 : decode cX11_race 86 = .ok (.aload_n 0, 1) := by decide +kernel
theorem dX11_race_87 : decode cX11_race 87 = .ok (.getfield 70, 3) := by decide +kernel
theorem dX11_race_90 : decode cX11_race 90 = .ok (.iload_n 1, 1) := by decide +kernel
theorem dX11_race_91 : decode cX11_race 91 = .ok (.iload_n 2, 1) := by decide +kernel
theorem dX11_race_92 : decode cX11_race 92 = .ok (.aload_n 0, 1) := by decide +kernel
theorem dX11_race_93 : decode cX11_race 93 = .ok (.getfield 77, 3) := by decide +kernel
theorem dX11_race_96 : decode cX11_race 96 = .ok (.getfield 252, 3) := by decide +kernel
theorem dX11_race_99 : decode cX11_race 99 = .ok (.invokevirtual 288, 3) := by decide +kernel
theorem dX11_race_102 : decode cX11_race 102 = .ok (.aload_n 0, 1) := by decide +kernel
theorem dX11_race_103 : decode cX11_race 103 = .ok (.getfield 77, 3) := by decide +kernel
theorem dX11_race_106 : decode cX11_race 106 = .ok (.bipush 24, 2) := by decide +kernel
theorem dX11_race_108 : decode cX11_race 108 = .ok (.invokevirtual 260, 3) := by decide +kernel
theorem dX11_race_111 : decode cX11_race 111 = .ok (.aload_n 0, 1) := by decide +kernel
theorem dX11_race_112 : decode cX11_race 112 = .ok (.getfield 16, 3) := by decide +kernel
theorem dX11_race_115 : decode cX11_race 115 = .ok (.getfield 84, 3) := by decide +kernel
theorem dX11_race_118 : decode cX11_race 118 = .ok (.ireturn, 1) := by decide +kernel
theorem dX11_octet_0 : decode cX11_octet 0 = .ok (.aload_n 0, 1) := by decide +kernel
theorem dX11_octet_1 : decode cX11_octet 1 = .ok (.getfield 16, 3) := by decide +kernel
theorem dX11_octet_4 : decode cX11_octet 4 = .ok (.iload_n 1, 1) := by decide +kernel
theorem dX11_octet_5 : decode cX11_octet 5 = .ok (.invokevirtual 292, 3) := by decide +kernel
theorem dX11_octet_8 : decode cX11_octet 8 = .ok (.ireturn, 1) := by decide +kernel
theorem dX11_setUpGame_0 : decode cX11_setUpGame 0 = .ok (.aload_n 0, 1) := by decide +kernel
theorem dX11_setUpGame_1 : decode cX11_setUpGame 1 = .ok (.getfield 63, 3) := by decide +kernel
theorem dX11_setUpGame_4 : decode cX11_setUpGame 4 = .ok (.invokevirtual 295, 3) := by decide +kernel
theorem dX11_setUpGame_7 : decode cX11_setUpGame 7 = .ok (.aload_n 0, 1) := by decide +kernel
theorem dX11_setUpGame_8 : decode cX11_setUpGame 8 = .ok (.getfield 22, 3) := by decide +kernel
theorem dX11_setUpGame_11 : decode cX11_setUpGame 11 = .ok (.invokevirtual 81, 3) := by decide +kernel
theorem dX11_setUpGame_14 : decode cX11_setUpGame 14 = .ok (.aload_n 0, 1) := by decide +kernel
theorem dX11_setUpGame_15 : decode cX11_setUpGame 15 = .ok (.getfield 56, 3) := by decide +kernel
theorem dX11_setUpGame_18 : decode cX11_setUpGame 18 = .ok (.invokevirtual 117, 3) := by decide +kernel
theorem dX11_setUpGame_21 : decode cX11_setUpGame 21 = .ok (.return_, 1) := by decide +kernel
theorem dX11_checkLength_0 : decode cX11_checkLength 0 = .ok (.iload_n 1, 1) := by decide +kernel
theorem dX11_checkLength_1 : decode cX11_checkLength 1 = .ok (.ifCond .lt 14, 3) := by decide +kernel
theorem dX11_checkLength_4 : decode cX11_checkLength 4 = .ok (.iload_n 1, 1) := by decide +kernel
theorem dX11_checkLength_5 : decode cX11_checkLength 5 = .ok (.aload_n 0, 1) := by decide +kernel
theorem dX11_checkLength_6 : decode cX11_checkLength 6 = .ok (.getfield 10, 3) := by decide +kernel
theorem dX11_checkLength_9 : decode cX11_checkLength 9 = .ok (.getfield 84, 3) := by decide +kernel
theorem dX11_checkLength_12 : decode cX11_checkLength 12 = .ok (.if_icmp .le 14, 3) := by decide +kernel
theorem dX11_checkLength_15 : decode cX11_checkLength 15 = .ok (.new 149, 3) := by decide +kernel
theorem dX11_checkLength_18 : decode cX11_checkLength 18 = .ok (.dup, 1) := by decide +kernel
theorem dX11_checkLength_19 : decode cX11_checkLength 19 = .ok (.ldc_w 298, 3) := by decide +kernel
theorem dX11_checkLength_22 : decode cX11_checkLength 22 = .ok (.invokespecial 153, 3) := by decide +kernel
theorem dX11_checkLength_25 : decode cX11_checkLength 25 = .ok (.athrow, 1) := by decide +kernel
theorem dX11_checkLength_26 : decode cX11_checkLength 26 = .ok (.return_, 1) := by decide +kernel
theorem dX11_checkDice_0 : decode cX11_checkDice 0 = .ok (.iload_n 0, 1) := by decide +kernel
theorem dX11_checkDice_1 : decode cX11_checkDice 1 = .ok (.iconst 1, 1) := by decide +kernel
theorem dX11_checkDice_2 : decode cX11_checkDice 2 = .ok (.if_icmp .lt 20, 3) := by decide +kernel
theorem dX11_checkDice_5 : decode cX11_checkDice 5 = .ok (.iload_n 0, 1) := by decide +kernel
theorem dX11_checkDice_6 : decode cX11_checkDice 6 = .ok (.bipush 6, 2) := by decide +kernel
theorem dX11_checkDice_8 : decode cX11_checkDice 8 = .ok (.if_icmp .gt 14, 3) := by decide +kernel
theorem dX11_checkDice_11 : decode cX11_checkDice 11 = .ok (.iload_n 1, 1) := by decide +kernel
theorem dX11_checkDice_12 : decode cX11_checkDice 12 = .ok (.iconst 1, 1) := by decide +kernel
theorem dX11_checkDice_13 : decode cX11_checkDice 13 = .ok (.if_icmp .lt 9, 3) := by decide +kernel
theorem dX11_checkDice_16 : decode cX11_checkDice 16 = .ok (.iload_n 1, 1) := by decide +kernel
theorem dX11_checkDice_17 : decode cX11_checkDice 17 = .ok (.bipush 6, 2) := by decide +kernel
theorem dX11_checkDice_19 : decode cX11_checkDice 19 = .ok (.if_icmp .le 14, 3) := by decide +kernel
theorem dX11_checkDice_22 : decode cX11_checkDice 22 = .ok (.new 149, 3) := by decide +kernel
theorem dX11_checkDice_25 : decode cX11_checkDice 25 = .ok (.dup, 1) := by decide +kernel
theorem dX11_checkDice_26 : decode cX11_checkDice 26 = .ok (.ldc_w 300, 3) := by decide +kernel
theorem dX11_checkDice_29 : decode cX11_checkDice 29 = .ok (.invokespecial 153, 3) := by decide +kernel
theorem dX11_checkDice_32 : decode cX11_checkDice 32 = .ok (.athrow, 1) := by decide +kernel
theorem dX11_checkDice_33 : decode cX11_checkDice 33 = .ok (.return_, 1) := by decide +kernel
theorem dX11_checkDue_0 : decode cX11_checkDue 0 = .ok (.aload_n 0, 1) := by decide +kernel
theorem dX11_checkDue_1 : decode cX11_checkDue 1 = .ok (.getfield 63, 3) := by decide +kernel
theorem dX11_checkDue_4 : decode cX11_checkDue 4 = .ok (.invokevirtual 95, 3) := by decide +kernel
theorem dX11_checkDue_7 : decode cX11_checkDue 7 = .ok (.ifCond .eq 26, 3) := by decide +kernel
theorem dX11_checkDue_10 : decode cX11_checkDue 10 = .ok (.aload_n 0, 1) := by decide +kernel
theorem dX11_checkDue_11 : decode cX11_checkDue 11 = .ok (.getfield 63, 3) := by decide +kernel
theorem dX11_checkDue_14 : decode cX11_checkDue 14 = .ok (.iload_n 1, 1) := by decide +kernel
theorem dX11_checkDue_15 : decode cX11_checkDue 15 = .ok (.iload_n 2, 1) := by decide +kernel
theorem dX11_checkDue_16 : decode cX11_checkDue 16 = .ok (.invokevirtual 302, 3) := by decide +kernel
theorem dX11_checkDue_19 : decode cX11_checkDue 19 = .ok (.ifCond .ne 14, 3) := by decide +kernel
theorem dX11_checkDue_22 : decode cX11_checkDue 22 = .ok (.new 99, 3) := by decide +kernel
theorem dX11_checkDue_25 : decode cX11_checkDue 25 = .ok (.dup, 1) := by decide +kernel
theorem dX11_checkDue_26 : decode cX11_checkDue 26 = .ok (.ldc_w 306, 3) := by decide +kernel
theorem dX11_checkDue_29 : decode cX11_checkDue 29 = .ok (.invokespecial 103, 3) := by decide +kernel
theorem dX11_checkDue_32 : decode cX11_checkDue 32 = .ok (.athrow, 1) := by decide +kernel
theorem dX11_checkDue_33 : decode cX11_checkDue 33 = .ok (.return_, 1) := by decide +kernel
theorem dX11_checkResult_0 : decode cX11_checkResult 0 = .ok (.iload_n 1, 1) := by decide +kernel
theorem dX11_checkResult_1 : decode cX11_checkResult 1 = .ok (.ifCond .lt 14, 3) := by decide +kernel
theorem dX11_checkResult_4 : decode cX11_checkResult 4 = .ok (.iload_n 1, 1) := by decide +kernel
theorem dX11_checkResult_5 : decode cX11_checkResult 5 = .ok (.aload_n 0, 1) := by decide +kernel
theorem dX11_checkResult_6 : decode cX11_checkResult 6 = .ok (.getfield 56, 3) := by decide +kernel
theorem dX11_checkResult_9 : decode cX11_checkResult 9 = .ok (.getfield 144, 3) := by decide +kernel
theorem dX11_checkResult_12 : decode cX11_checkResult 12 = .ok (.if_icmp .lt 14, 3) := by decide +kernel
theorem dX11_checkResult_15 : decode cX11_checkResult 15 = .ok (.new 308, 3) := by decide +kernel
theorem dX11_checkResult_18 : decode cX11_checkResult 18 = .ok (.dup, 1) := by decide +kernel
theorem dX11_checkResult_19 : decode cX11_checkResult 19 = .ok (.ldc_w 310, 3) := by decide +kernel
theorem dX11_checkResult_22 : decode cX11_checkResult 22 = .ok (.invokespecial 312, 3) := by decide +kernel
theorem dX11_checkResult_25 : decode cX11_checkResult 25 = .ok (.athrow, 1) := by decide +kernel
theorem dX11_checkResult_26 : decode cX11_checkResult 26 = .ok (.return_, 1) := by decide +kernel
theorem dX11_checkPlace_0 : decode cX11_checkPlace 0 = .ok (.iload_n 0, 1) := by decide +kernel
theorem dX11_checkPlace_1 : decode cX11_checkPlace 1 = .ok (.ifCond .lt 18, 3) := by decide +kernel
theorem dX11_checkPlace_4 : decode cX11_checkPlace 4 = .ok (.iload_n 0, 1) := by decide +kernel
theorem dX11_checkPlace_5 : decode cX11_checkPlace 5 = .ok (.iconst 1, 1) := by decide +kernel
theorem dX11_checkPlace_6 : decode cX11_checkPlace 6 = .ok (.if_icmp .gt 13, 3) := by decide +kernel
theorem dX11_checkPlace_9 : decode cX11_checkPlace 9 = .ok (.iload_n 1, 1) := by decide +kernel
theorem dX11_checkPlace_10 : decode cX11_checkPlace 10 = .ok (.ifCond .lt 9, 3) := by decide +kernel
theorem dX11_checkPlace_13 : decode cX11_checkPlace 13 = .ok (.iload_n 1, 1) := by decide +kernel
theorem dX11_checkPlace_14 : decode cX11_checkPlace 14 = .ok (.bipush 25, 2) := by decide +kernel
theorem dX11_checkPlace_16 : decode cX11_checkPlace 16 = .ok (.if_icmp .le 14, 3) := by decide +kernel
theorem dX11_checkPlace_19 : decode cX11_checkPlace 19 = .ok (.new 313, 3) := by decide +kernel
theorem dX11_checkPlace_22 : decode cX11_checkPlace 22 = .ok (.dup, 1) := by decide +kernel
theorem dX11_checkPlace_23 : decode cX11_checkPlace 23 = .ok (.ldc_w 315, 3) := by decide +kernel
theorem dX11_checkPlace_26 : decode cX11_checkPlace 26 = .ok (.invokespecial 317, 3) := by decide +kernel
theorem dX11_checkPlace_29 : decode cX11_checkPlace 29 = .ok (.athrow, 1) := by decide +kernel
theorem dX11_checkPlace_30 : decode cX11_checkPlace 30 = .ok (.return_, 1) := by decide +kernel
theorem dX11_checkStand_0 : decode cX11_checkStand 0 = .ok (.iload_n 0, 1) := by decide +kernel
theorem dX11_checkStand_1 : decode cX11_checkStand 1 = .ok (.invokestatic 318, 3) := by decide +kernel
theorem dX11_checkStand_4 : decode cX11_checkStand 4 = .ok (.ifCond .ne 14, 3) := by decide +kernel
theorem dX11_checkStand_7 : decode cX11_checkStand 7 = .ok (.new 149, 3) := by decide +kernel
theorem dX11_checkStand_10 : decode cX11_checkStand 10 = .ok (.dup, 1) := by decide +kernel
theorem dX11_checkStand_11 : decode cX11_checkStand 11 = .ok (.ldc_w 321, 3) := by decide +kernel
theorem dX11_checkStand_14 : decode cX11_checkStand 14 = .ok (.invokespecial 153, 3) := by decide +kernel
theorem dX11_checkStand_17 : decode cX11_checkStand 17 = .ok (.athrow, 1) := by decide +kernel
theorem dX11_checkStand_18 : decode cX11_checkStand 18 = .ok (.return_, 1) := by decide +kernel
theorem dX11_checkKnown_0 : decode cX11_checkKnown 0 = .ok (.iload_n 1, 1) := by decide +kernel
theorem dX11_checkKnown_1 : decode cX11_checkKnown 1 = .ok (.invokestatic 323, 3) := by decide +kernel
theorem dX11_checkKnown_4 : decode cX11_checkKnown 4 = .ok (.aload_n 0, 1) := by decide +kernel
theorem dX11_checkKnown_5 : decode cX11_checkKnown 5 = .ok (.getfield 146, 3) := by decide +kernel
theorem dX11_checkKnown_8 : decode cX11_checkKnown 8 = .ok (.if_icmp .le 14, 3) := by decide +kernel
theorem dX11_checkKnown_11 : decode cX11_checkKnown 11 = .ok (.new 99, 3) := by decide +kernel
theorem dX11_checkKnown_14 : decode cX11_checkKnown 14 = .ok (.dup, 1) := by decide +kernel
theorem dX11_checkKnown_15 : decode cX11_checkKnown 15 = .ok (.ldc_w 324, 3) := by decide +kernel
theorem dX11_checkKnown_18 : decode cX11_checkKnown 18 = .ok (.invokespecial 103, 3) := by decide +kernel
theorem dX11_checkKnown_21 : decode cX11_checkKnown 21 = .ok (.athrow, 1) := by decide +kernel
theorem dX11_checkKnown_22 : decode cX11_checkKnown 22 = .ok (.return_, 1) := by decide +kernel
