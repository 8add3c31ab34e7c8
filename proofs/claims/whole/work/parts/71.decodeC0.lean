theorem dX0_init_0 : decode cX0_init 0 = .ok (.aload_n 0, 1) := by decide +kernel
theorem dX0_init_1 : decode cX0_init 1 = .ok (.invokespecial 3, 3) := by decide +kernel
theorem dX0_init_4 : decode cX0_init 4 = .ok (.aload_n 0, 1) := by decide +kernel
theorem dX0_init_5 : decode cX0_init 5 = .ok (.bipush 52, 2) := by decide +kernel
theorem dX0_init_7 : decode cX0_init 7 = .ok (.newarray .int, 2) := by decide +kernel
theorem dX0_init_9 : decode cX0_init 9 = .ok (.putfield 9, 3) := by decide +kernel
theorem dX0_init_12 : decode cX0_init 12 = .ok (.return_, 1) := by decide +kernel
theorem dX0_count_0 : decode cX0_count 0 = .ok (.aload_n 0, 1) := by decide +kernel
theorem dX0_count_1 : decode cX0_count 1 = .ok (.getfield 9, 3) := by decide +kernel
theorem dX0_count_4 : decode cX0_count 4 = .ok (.iload_n 1, 1) := by decide +kernel
theorem dX0_count_5 : decode cX0_count 5 = .ok (.bipush 26, 2) := by decide +kernel
theorem dX0_count_7 : decode cX0_count 7 = .ok (.imul, 1) := by decide +kernel
theorem dX0_count_8 : decode cX0_count 8 = .ok (.iload_n 2, 1) := by decide +kernel
theorem dX0_count_9 : decode cX0_count 9 = .ok (.iadd, 1) := by decide +kernel
theorem dX0_count_10 : decode cX0_count 10 = .ok (.iaload, 1) := by decide +kernel
theorem dX0_count_11 : decode cX0_count 11 = .ok (.ireturn, 1) := by decide +kernel
theorem dX0_put_0 : decode cX0_put 0 = .ok (.aload_n 0, 1) := by decide +kernel
theorem dX0_put_1 : decode cX0_put 1 = .ok (.getfield 9, 3) := by decide +kernel
theorem dX0_put_4 : decode cX0_put 4 = .ok (.iload_n 1, 1) := by decide +kernel
theorem dX0_put_5 : decode cX0_put 5 = .ok (.bipush 26, 2) := by decide +kernel
theorem dX0_put_7 : decode cX0_put 7 = .ok (.imul, 1) := by decide +kernel
theorem dX0_put_8 : decode cX0_put 8 = .ok (.iload_n 2, 1) := by decide +kernel
theorem dX0_put_9 : decode cX0_put 9 = .ok (.iadd, 1) := by decide +kernel
theorem dX0_put_10 : decode cX0_put 10 = .ok (.iload_n 3, 1) := by decide +kernel
theorem dX0_put_11 : decode cX0_put 11 = .ok (.iastore, 1) := by decide +kernel
theorem dX0_put_12 : decode cX0_put 12 = .ok (.return_, 1) := by decide +kernel
theorem dX0_clear_0 : decode cX0_clear 0 = .ok (.aload_n 0, 1) := by decide +kernel
theorem dX0_clear_1 : decode cX0_clear 1 = .ok (.getfield 9, 3) := by decide +kernel
theorem dX0_clear_4 : decode cX0_clear 4 = .ok (.iconst 0, 1) := by decide +kernel
theorem dX0_clear_5 : decode cX0_clear 5 = .ok (.invokestatic 15, 3) := by decide +kernel
theorem dX0_clear_8 : decode cX0_clear 8 = .ok (.aload_n 0, 1) := by decide +kernel
theorem dX0_clear_9 : decode cX0_clear 9 = .ok (.iconst 0, 1) := by decide +kernel
theorem dX0_clear_10 : decode cX0_clear 10 = .ok (.iconst 0, 1) := by decide +kernel
theorem dX0_clear_11 : decode cX0_clear 11 = .ok (.bipush 15, 2) := by decide +kernel
theorem dX0_clear_13 : decode cX0_clear 13 = .ok (.invokevirtual 21, 3) := by decide +kernel
theorem dX0_clear_16 : decode cX0_clear 16 = .ok (.aload_n 0, 1) := by decide +kernel
theorem dX0_clear_17 : decode cX0_clear 17 = .ok (.iconst 1, 1) := by decide +kernel
theorem dX0_clear_18 : decode cX0_clear 18 = .ok (.iconst 0, 1) := by decide +kernel
theorem dX0_clear_19 : decode cX0_clear 19 = .ok (.bipush 15, 2) := by decide +kernel
theorem dX0_clear_21 : decode cX0_clear 21 = .ok (.invokevirtual 21, 3) := by decide +kernel
theorem dX0_clear_24 : decode cX0_clear 24 = .ok (.aload_n 0, 1) := by decide +kernel
theorem dX0_clear_25 : decode cX0_clear 25 = .ok (.iconst 0, 1) := by decide +kernel
theorem dX0_clear_26 : decode cX0_clear 26 = .ok (.putfield 25, 3) := by decide +kernel
theorem dX0_clear_29 : decode cX0_clear 29 = .ok (.return_, 1) := by decide +kernel
theorem dX0_setUp_0 : decode cX0_setUp 0 = .ok (.aload_n 0, 1) := by decide +kernel
theorem dX0_setUp_1 : decode cX0_setUp 1 = .ok (.invokevirtual 29, 3) := by decide +kernel
theorem dX0_setUp_4 : decode cX0_setUp 4 = .ok (.iconst 0, 1) := by decide +kernel
theorem dX0_setUp_5 : decode cX0_setUp 5 = .ok (.istore_n 1, 1) := by decide +kernel
theorem dX0_setUp_6 : decode cX0_setUp 6 = .ok (.iload_n 1, 1) := by decide +kernel
theorem dX0_setUp_7 : decode cX0_setUp 7 = .ok (.getstatic 32, 3) := by decide +kernel
theorem dX0_setUp_10 : decode cX0_setUp 10 = .ok (.arraylength, 1) := by decide +kernel
theorem dX0_setUp_11 : decode cX0_setUp 11 = .ok (.if_icmp .ge 39, 3) := by decide +kernel
theorem dX0_setUp_14 : decode cX0_setUp 14 = .ok (.aload_n 0, 1) := by decide +kernel
theorem dX0_setUp_15 : decode cX0_setUp 15 = .ok (.iconst 0, 1) := by decide +kernel
theorem dX0_setUp_16 : decode cX0_setUp 16 = .ok (.getstatic 32, 3) := by decide +kernel
theorem dX0_setUp_19 : decode cX0_setUp 19 = .ok (.iload_n 1, 1) := by decide +kernel
theorem dX0_setUp_20 : decode cX0_setUp 20 = .ok (.iaload, 1) := by decide +kernel
theorem dX0_setUp_21 : decode cX0_setUp 21 = .ok (.getstatic 35, 3) := by decide +kernel
theorem dX0_setUp_24 : decode cX0_setUp 24 = .ok (.iload_n 1, 1) := by decide +kernel
theorem dX0_setUp_25 : decode cX0_setUp 25 = .ok (.iaload, 1) := by decide +kernel
theorem dX0_setUp_26 : decode cX0_setUp 26 = .ok (.invokevirtual 38, 3) := by decide +kernel
theorem dX0_setUp_29 : decode cX0_setUp 29 = .ok (.aload_n 0, 1) := by decide +kernel
theorem dX0_setUp_30 : decode cX0_setUp 30 = .ok (.iconst 1, 1) := by decide +kernel
theorem dX0_setUp_31 : decode cX0_setUp 31 = .ok (.getstatic 32, 3) := by decide +kernel
theorem dX0_setUp_34 : decode cX0_setUp 34 = .ok (.iload_n 1, 1) := by decide +kernel
theorem dX0_setUp_35 : decode cX0_setUp 35 = .ok (.iaload, 1) := by decide +kernel
theorem dX0_setUp_36 : decode cX0_setUp 36 = .ok (.getstatic 35, 3) := by decide +kernel
theorem dX0_setUp_39 : decode cX0_setUp 39 = .ok (.iload_n 1, 1) := by decide +kernel
theorem dX0_setUp_40 : decode cX0_setUp 40 = .ok (.iaload, 1) := by decide +kernel
theorem dX0_setUp_41 : decode cX0_setUp 41 = .ok (.invokevirtual 38, 3) := by decide +kernel
theorem dX0_setUp_44 : decode cX0_setUp 44 = .ok (.iinc 1 1, 3) := by decide +kernel
theorem dX0_setUp_47 : decode cX0_setUp 47 = .ok (.goto (-41), 3) := by decide +kernel
theorem dX0_setUp_50 : decode cX0_setUp 50 = .ok (.return_, 1) := by decide +kernel
theorem dX0_takeFromOff_0 : decode cX0_takeFromOff 0 = .ok (.aload_n 0, 1) := by decide +kernel
theorem dX0_takeFromOff_1 : decode cX0_takeFromOff 1 = .ok (.getfield 9, 3) := by decide +kernel
theorem dX0_takeFromOff_4 : decode cX0_takeFromOff 4 = .ok (.iload_n 1, 1) := by decide +kernel
theorem dX0_takeFromOff_5 : decode cX0_takeFromOff 5 = .ok (.bipush 26, 2) := by decide +kernel
theorem dX0_takeFromOff_7 : decode cX0_takeFromOff 7 = .ok (.imul, 1) := by decide +kernel
theorem dX0_takeFromOff_8 : decode cX0_takeFromOff 8 = .ok (.iconst 0, 1) := by decide +kernel
theorem dX0_takeFromOff_9 : decode cX0_takeFromOff 9 = .ok (.iadd, 1) := by decide +kernel
theorem dX0_takeFromOff_10 : decode cX0_takeFromOff 10 = .ok (.dup2, 1) := by decide +kernel
theorem dX0_takeFromOff_11 : decode cX0_takeFromOff 11 = .ok (.iaload, 1) := by decide +kernel
theorem dX0_takeFromOff_12 : decode cX0_takeFromOff 12 = .ok (.iload_n 3, 1) := by decide +kernel
theorem dX0_takeFromOff_13 : decode cX0_takeFromOff 13 = .ok (.isub, 1) := by decide +kernel
theorem dX0_takeFromOff_14 : decode cX0_takeFromOff 14 = .ok (.iastore, 1) := by decide +kernel
theorem dX0_takeFromOff_15 : decode cX0_takeFromOff 15 = .ok (.aload_n 0, 1) := by decide +kernel
theorem dX0_takeFromOff_16 : decode cX0_takeFromOff 16 = .ok (.getfield 9, 3) := by decide +kernel
theorem dX0_takeFromOff_19 : decode cX0_takeFromOff 19 = .ok (.iload_n 1, 1) := by decide +kernel
theorem dX0_takeFromOff_20 : decode cX0_takeFromOff 20 = .ok (.bipush 26, 2) := by decide +kernel
theorem dX0_takeFromOff_22 : decode cX0_takeFromOff 22 = .ok (.imul, 1) := by decide +kernel
theorem dX0_takeFromOff_23 : decode cX0_takeFromOff 23 = .ok (.iload_n 2, 1) := by decide +kernel
theorem dX0_takeFromOff_24 : decode cX0_takeFromOff 24 = .ok (.iadd, 1) := by decide +kernel
theorem dX0_takeFromOff_25 : decode cX0_takeFromOff 25 = .ok (.dup2, 1) := by decide +kernel
theorem dX0_takeFromOff_26 : decode cX0_takeFromOff 26 = .ok (.iaload, 1) := by decide +kernel
theorem dX0_takeFromOff_27 : decode cX0_takeFromOff 27 = .ok (.iload_n 3, 1) := by decide +kernel
theorem dX0_takeFromOff_28 : decode cX0_takeFromOff 28 = .ok (.iadd, 1) := by decide +kernel
theorem dX0_takeFromOff_29 : decode cX0_takeFromOff 29 = .ok (.iastore, 1) := by decide +kernel
theorem dX0_takeFromOff_30 : decode cX0_takeFromOff 30 = .ok (.return_, 1) := by decide +kernel
theorem dX0_copyFrom_0 : decode cX0_copyFrom 0 = .ok (.aload_n 1, 1) := by decide +kernel
theorem dX0_copyFrom_1 : decode cX0_copyFrom 1 = .ok (.getfield 9, 3) := by decide +kernel
theorem dX0_copyFrom_4 : decode cX0_copyFrom 4 = .ok (.iconst 0, 1) := by decide +kernel
theorem dX0_copyFrom_5 : decode cX0_copyFrom 5 = .ok (.aload_n 0, 1) := by decide +kernel
theorem dX0_copyFrom_6 : decode cX0_copyFrom 6 = .ok (.getfield 9, 3) := by decide +kernel
theorem dX0_copyFrom_9 : decode cX0_copyFrom 9 = .ok (.iconst 0, 1) := by decide +kernel
theorem dX0_copyFrom_10 : decode cX0_copyFrom 10 = .ok (.aload_n 0, 1) := by decide +kernel
theorem dX0_copyFrom_11 : decode cX0_copyFrom 11 = .ok (.getfield 9, 3) := by decide +kernel
theorem dX0_copyFrom_14 : decode cX0_copyFrom 14 = .ok (.arraylength, 1) := by decide +kernel
theorem dX0_copyFrom_15 : decode cX0_copyFrom 15 = .ok (.invokestatic 41, 3) := by decide +kernel
theorem dX0_copyFrom_18 : decode cX0_copyFrom 18 = .ok (.aload_n 0, 1) := by decide +kernel
theorem dX0_copyFrom_19 : decode cX0_copyFrom 19 = .ok (.aload_n 1, 1) := by decide +kernel
theorem dX0_copyFrom_20 : decode cX0_copyFrom 20 = .ok (.getfield 25, 3) := by decide +kernel
theorem dX0_copyFrom_23 : decode cX0_copyFrom 23 = .ok (.putfield 25, 3) := by decide +kernel
theorem dX0_copyFrom_26 : decode cX0_copyFrom 26 = .ok (.return_, 1) := by decide +kernel
theorem dX0_hasAllOff_0 : decode cX0_hasAllOff 0 = .ok (.aload_n 0, 1) := by decide +kernel
theorem dX0_hasAllOff_1 : decode cX0_hasAllOff 1 = .ok (.iload_n 1, 1) := by decide +kernel
theorem dX0_hasAllOff_2 : decode cX0_hasAllOff 2 = .ok (.iconst 0, 1) := by decide +kernel
theorem dX0_hasAllOff_3 : decode cX0_hasAllOff 3 = .ok (.invokevirtual 47, 3) := by decide +kernel
theorem dX0_hasAllOff_6 : decode cX0_hasAllOff 6 = .ok (.bipush 15, 2) := by decide +kernel
theorem dX0_hasAllOff_8 : decode cX0_hasAllOff 8 = .ok (.if_icmp .ne 7, 3) := by decide +kernel
theorem dX0_hasAllOff_11 : decode cX0_hasAllOff 11 = .ok (.iconst 1, 1) := by decide +kernel
theorem dX0_hasAllOff_12 : decode cX0_hasAllOff 12 = .ok (.goto 4, 3) := by decide +kernel
theorem dX0_hasAllOff_15 : decode cX0_hasAllOff 15 = .ok (.iconst 0, 1) := by decide +kernel
theorem dX0_hasAllOff_16 : decode cX0_hasAllOff 16 = .ok (.ireturn, 1) := by decide +kernel
theorem dX0_isOver_0 : decode cX0_isOver 0 = .ok (.aload_n 0, 1) := by decide +kernel
theorem dX0_isOver_1 : decode cX0_isOver 1 = .ok (.iconst 0, 1) := by decide +kernel
theorem dX0_isOver_2 : decode cX0_isOver 2 = .ok (.invokevirtual 51, 3) := by decide +kernel
theorem dX0_isOver_5 : decode cX0_isOver 5 = .ok (.ifCond .ne 11, 3) := by decide +kernel
theorem dX0_isOver_8 : decode cX0_isOver 8 = .ok (.aload_n 0, 1) := by decide +kernel
theorem dX0_isOver_9 : decode cX0_isOver 9 = .ok (.iconst 1, 1) := by decide +kernel
theorem dX0_isOver_10 : decode cX0_isOver 10 = .ok (.invokevirtual 51, 3) := by decide +kernel
theorem dX0_isOver_13 : decode cX0_isOver 13 = .ok (.ifCond .eq 7, 3) := by decide +kernel
theorem dX0_isOver_16 : decode cX0_isOver 16 = .ok (.iconst 1, 1) := by decide +kernel
theorem dX0_isOver_17 : decode cX0_isOver 17 = .ok (.goto 4, 3) := by decide +kernel
theorem dX0_isOver_20 : decode cX0_isOver 20 = .ok (.iconst 0, 1) := by decide +kernel
theorem dX0_isOver_21 : decode cX0_isOver 21 = .ok (.ireturn, 1) := by decide +kernel
theorem dX0_pips_0 : decode cX0_pips 0 = .ok (.iconst 0, 1) := by decide +kernel
theorem dX0_pips_1 : decode cX0_pips 1 = .ok (.istore_n 2, 1) := by decide +kernel
theorem dX0_pips_2 : decode cX0_pips 2 = .ok (.iconst 1, 1) := by decide +kernel
theorem dX0_pips_3 : decode cX0_pips 3 = .ok (.istore_n 3, 1) := by decide +kernel
theorem dX0_pips_4 : decode cX0_pips 4 = .ok (.iload_n 3, 1) := by decide +kernel
theorem dX0_pips_5 : decode cX0_pips 5 = .ok (.bipush 25, 2) := by decide +kernel
theorem dX0_pips_7 : decode cX0_pips 7 = .ok (.if_icmp .gt 20, 3) := by decide +kernel
theorem dX0_pips_10 : decode cX0_pips 10 = .ok (.iload_n 2, 1) := by decide +kernel
theorem dX0_pips_11 : decode cX0_pips 11 = .ok (.iload_n 3, 1) := by decide +kernel
theorem dX0_pips_12 : decode cX0_pips 12 = .ok (.aload_n 0, 1) := by decide +kernel
theorem dX0_pips_13 : decode cX0_pips 13 = .ok (.iload_n 1, 1) := by decide +kernel
theorem dX0_pips_14 : decode cX0_pips 14 = .ok (.iload_n 3, 1) := by decide +kernel
theorem dX0_pips_15 : decode cX0_pips 15 = .ok (.invokevirtual 47, 3) := by decide +kernel
theorem dX0_pips_18 : decode cX0_pips 18 = .ok (.imul, 1) := by decide +kernel
theorem dX0_pips_19 : decode cX0_pips 19 = .ok (.iadd, 1) := by decide +kernel
theorem dX0_pips_20 : decode cX0_pips 20 = .ok (.istore_n 2, 1) := by decide +kernel
theorem dX0_pips_21 : decode cX0_pips 21 = .ok (.iinc 3 1, 3) := by decide +kernel
theorem dX0_pips_24 : decode cX0_pips 24 = .ok (.goto (-20), 3) := by decide +kernel
theorem dX0_pips_27 : decode cX0_pips 27 = .ok (.iload_n 2, 1) := by decide +kernel
theorem dX0_pips_28 : decode cX0_pips 28 = .ok (.ireturn, 1) := by decide +kernel
theorem dX0_highest_0 : decode cX0_highest 0 = .ok (.bipush 25, 2) := by decide +kernel
theorem dX0_highest_2 : decode cX0_highest 2 = .ok (.istore_n 2, 1) := by decide +kernel
theorem dX0_highest_3 : decode cX0_highest 3 = .ok (.iload_n 2, 1) := by decide +kernel
theorem dX0_highest_4 : decode cX0_highest 4 = .ok (.ifCond .le 20, 3) := by decide +kernel
theorem dX0_highest_7 : decode cX0_highest 7 = .ok (.aload_n 0, 1) := by decide +kernel
theorem dX0_highest_8 : decode cX0_highest 8 = .ok (.iload_n 1, 1) := by decide +kernel
theorem dX0_highest_9 : decode cX0_highest 9 = .ok (.iload_n 2, 1) := by decide +kernel
theorem dX0_highest_10 : decode cX0_highest 10 = .ok (.invokevirtual 47, 3) := by decide +kernel
theorem dX0_highest_13 : decode cX0_highest 13 = .ok (.ifCond .le 5, 3) := by decide +kernel
theorem dX0_highest_16 : decode cX0_highest 16 = .ok (.iload_n 2, 1) := by decide +kernel
theorem dX0_highest_17 : decode cX0_highest 17 = .ok (.ireturn, 1) := by decide +kernel
theorem dX0_highest_18 : decode cX0_highest 18 = .ok (.iinc 2 (-1), 3) := by decide +kernel
theorem dX0_highest_21 : decode cX0_highest 21 = .ok (.goto (-18), 3) := by decide +kernel
theorem dX0_highest_24 : decode cX0_highest 24 = .ok (.iconst 0, 1) := by decide +kernel
theorem dX0_highest_25 : decode cX0_highest 25 = .ok (.ireturn, 1) := by decide +kernel
theorem dX0_canMove_0 : decode cX0_canMove 0 = .ok (.iload_n 1, 1) := by decide +kernel
theorem dX0_canMove_1 : decode cX0_canMove 1 = .ok (.iconst 1, 1) := by decide +kernel
theorem dX0_canMove_2 : decode cX0_canMove 2 = .ok (.if_icmp .lt 21, 3) := by decide +kernel
theorem dX0_canMove_5 : decode cX0_canMove 5 = .ok (.iload_n 1, 1) := by decide +kernel
theorem dX0_canMove_6 : decode cX0_canMove 6 = .ok (.bipush 25, 2) := by decide +kernel
theorem dX0_canMove_8 : decode cX0_canMove 8 = .ok (.if_icmp .gt 15, 3) := by decide +kernel
theorem dX0_canMove_11 : decode cX0_canMove 11 = .ok (.aload_n 0, 1) := by decide +kernel
theorem dX0_canMove_12 : decode cX0_canMove 12 = .ok (.aload_n 0, 1) := by decide +kernel
theorem dX0_canMove_13 : decode cX0_canMove 13 = .ok (.getfield 25, 3) := by decide +kernel
theorem dX0_canMove_16 : decode cX0_canMove 16 = .ok (.iload_n 1, 1) := by decide +kernel
theorem dX0_canMove_17 : decode cX0_canMove 17 = .ok (.invokevirtual 47, 3) := by decide +kernel
theorem dX0_canMove_20 : decode cX0_canMove 20 = .ok (.ifCond .ne 5, 3) := by decide +kernel
theorem dX0_canMove_23 : decode cX0_canMove 23 = .ok (.iconst 0, 1) := by decide +kernel
theorem dX0_canMove_24 : decode cX0_canMove 24 = .ok (.ireturn, 1) := by decide +kernel
theorem dX0_canMove_25 : decode cX0_canMove 25 = .ok (.iload_n 1, 1) := by decide +kernel
theorem dX0_canMove_26 : decode cX0_canMove 26 = .ok (.bipush 25, 2) := by decide +kernel
theorem dX0_canMove_28 : decode cX0_canMove 28 = .ok (.if_icmp .eq 18, 3) := by decide +kernel
theorem dX0_canMove_31 : decode cX0_canMove 31 = .ok (.aload_n 0, 1) := by decide +kernel
theorem dX0_canMove_32 : decode cX0_canMove 32 = .ok (.aload_n 0, 1) := by decide +kernel
theorem dX0_canMove_33 : decode cX0_canMove 33 = .ok (.getfield 25, 3) := by decide +kernel
theorem dX0_canMove_36 : decode cX0_canMove 36 = .ok (.bipush 25, 2) := by decide +kernel
theorem dX0_canMove_38 : decode cX0_canMove 38 = .ok (.invokevirtual 47, 3) := by decide +kernel
theorem dX0_canMove_41 : decode cX0_canMove 41 = .ok (.ifCond .le 5, 3) := by decide +kernel
theorem dX0_canMove_44 : decode cX0_canMove 44 = .ok (.iconst 0, 1) := by decide +kernel
theorem dX0_canMove_45 : decode cX0_canMove 45 = .ok (.ireturn, 1) := by decide +kernel
theorem dX0_canMove_46 : decode cX0_canMove 46 = .ok (.iload_n 1, 1) := by decide +kernel
theorem dX0_canMove_47 : decode cX0_canMove 47 = .ok (.iload_n 2, 1) := by decide +kernel
theorem dX0_canMove_48 : decode cX0_canMove 48 = .ok (.isub, 1) := by decide +kernel
theorem dX0_canMove_49 : decode cX0_canMove 49 = .ok (.istore_n 3, 1) := by decide +kernel
theorem dX0_canMove_50 : decode cX0_canMove 50 = .ok (.iload_n 3, 1) := by decide +kernel
theorem dX0_canMove_51 : decode cX0_canMove 51 = .ok (.ifCond .le 27, 3) := by decide +kernel
theorem dX0_canMove_54 : decode cX0_canMove 54 = .ok (.aload_n 0, 1) := by decide +kernel
theorem dX0_canMove_55 : decode cX0_canMove 55 = .ok (.iconst 1, 1) := by decide +kernel
theorem dX0_canMove_56 : decode cX0_canMove 56 = .ok (.aload_n 0, 1) := by decide +kernel
theorem dX0_canMove_57 : decode cX0_canMove 57 = .ok (.getfield 25, 3) := by decide +kernel
theorem dX0_canMove_60 : decode cX0_canMove 60 = .ok (.isub, 1) := by decide +kernel
theorem dX0_canMove_61 : decode cX0_canMove 61 = .ok (.bipush 25, 2) := by decide +kernel
theorem dX0_canMove_63 : decode cX0_canMove 63 = .ok (.iload_n 3, 1) := by decide +kernel
theorem dX0_canMove_64 : decode cX0_canMove 64 = .ok (.isub, 1) := by decide +kernel
theorem dX0_canMove_65 : decode cX0_canMove 65 = .ok (.invokevirtual 47, 3) := by decide +kernel
theorem dX0_canMove_68 : decode cX0_canMove 68 = .ok (.iconst 1, 1) := by decide +kernel
theorem dX0_canMove_69 : decode cX0_canMove 69 = .ok (.if_icmp .gt 7, 3) := by decide +kernel
theorem dX0_canMove_72 : decode cX0_canMove 72 = .ok (.iconst 1, 1) := by decide +kernel
theorem dX0_canMove_73 : decode cX0_canMove 73 = .ok (.goto 4, 3) := by decide +kernel
theorem dX0_canMove_76 : decode cX0_canMove 76 = .ok (.iconst 0, 1) := by decide +kernel
theorem dX0_canMove_77 : decode cX0_canMove 77 = .ok (.ireturn, 1) := by decide +kernel
theorem dX0_canMove_78 : decode cX0_canMove 78 = .ok (.aload_n 0, 1) := by decide +kernel
theorem dX0_canMove_79 : decode cX0_canMove 79 = .ok (.aload_n 0, 1) := by decide +kernel
theorem dX0_canMove_80 : decode cX0_canMove 80 = .ok (.getfield 25, 3) := by decide +kernel
theorem dX0_canMove_83 : decode cX0_canMove 83 = .ok (.invokevirtual 55, 3) := by decide +kernel
theorem dX0_canMove_86 : decode cX0_canMove 86 = .ok (.istore 4, 2) := by decide +kernel
theorem dX0_canMove_88 : decode cX0_canMove 88 = .ok (.iload 4, 2) := by decide +kernel
theorem dX0_canMove_90 : decode cX0_canMove 90 = .ok (.bipush 6, 2) := by decide +kernel
theorem dX0_canMove_92 : decode cX0_canMove 92 = .ok (.if_icmp .gt 17, 3) := by decide +kernel
theorem dX0_canMove_95 : decode cX0_canMove 95 = .ok (.iload_n 3, 1) := by decide +kernel
theorem dX0_canMove_96 : decode cX0_canMove 96 = .ok (.ifCond .eq 9, 3) := by decide +kernel
theorem dX0_canMove_99 : decode cX0_canMove 99 = .ok (.iload 4, 2) := by decide +kernel
theorem dX0_canMove_101 : decode cX0_canMove 101 = .ok (.iload_n 1, 1) := by decide +kernel
theorem dX0_canMove_102 : decode cX0_canMove 102 = .ok (.if_icmp .ne 7, 3) := by decide +kernel
theorem dX0_canMove_105 : decode cX0_canMove 105 = .ok (.iconst 1, 1) := by decide +kernel
theorem dX0_canMove_106 : decode cX0_canMove 106 = .ok (.goto 4, 3) := by decide +kernel
theorem dX0_canMove_109 : decode cX0_canMove 109 = .ok (.iconst 0, 1) := by decide +kernel
theorem dX0_canMove_110 : decode cX0_canMove 110 = .ok (.ireturn, 1) := by decide +kernel
theorem dX0_move_0 : decode cX0_move 0 = .ok (.aload_n 0, 1) := by decide +kernel
theorem dX0_move_1 : decode cX0_move 1 = .ok (.getfield 9, 3) := by decide +kernel
theorem dX0_move_4 : decode cX0_move 4 = .ok (.aload_n 0, 1) := by decide +kernel
theorem dX0_move_5 : decode cX0_move 5 = .ok (.getfield 25, 3) := by decide +kernel
theorem dX0_move_8 : decode cX0_move 8 = .ok (.bipush 26, 2) := by decide +kernel
theorem dX0_move_10 : decode cX0_move 10 = .ok (.imul, 1) := by decide +kernel
theorem dX0_move_11 : decode cX0_move 11 = .ok (.iload_n 1, 1) := by decide +kernel
theorem dX0_move_12 : decode cX0_move 12 = .ok (.iadd, 1) := by decide +kernel
theorem dX0_move_13 : decode cX0_move 13 = .ok (.dup2, 1) := by decide +kernel
theorem dX0_move_14 : decode cX0_move 14 = .ok (.iaload, 1) := by decide +kernel
theorem dX0_move_15 : decode cX0_move 15 = .ok (.iconst 1, 1) := by decide +kernel
theorem dX0_move_16 : decode cX0_move 16 = .ok (.isub, 1) := by decide +kernel
theorem dX0_move_17 : decode cX0_move 17 = .ok (.iastore, 1) := by decide +kernel
theorem dX0_move_18 : decode cX0_move 18 = .ok (.aload_n 0, 1) := by decide +kernel
theorem dX0_move_19 : decode cX0_move 19 = .ok (.getfield 9, 3) := by decide +kernel
theorem dX0_move_22 : decode cX0_move 22 = .ok (.aload_n 0, 1) := by decide +kernel
theorem dX0_move_23 : decode cX0_move 23 = .ok (.getfield 25, 3) := by decide +kernel
theorem dX0_move_26 : decode cX0_move 26 = .ok (.bipush 26, 2) := by decide +kernel
theorem dX0_move_28 : decode cX0_move 28 = .ok (.imul, 1) := by decide +kernel
theorem dX0_move_29 : decode cX0_move 29 = .ok (.iload_n 2, 1) := by decide +kernel
theorem dX0_move_30 : decode cX0_move 30 = .ok (.iadd, 1) := by decide +kernel
theorem dX0_move_31 : decode cX0_move 31 = .ok (.dup2, 1) := by decide +kernel
theorem dX0_move_32 : decode cX0_move 32 = .ok (.iaload, 1) := by decide +kernel
theorem dX0_move_33 : decode cX0_move 33 = .ok (.iconst 1, 1) := by decide +kernel
theorem dX0_move_34 : decode cX0_move 34 = .ok (.iadd, 1) := by decide +kernel
theorem dX0_move_35 : decode cX0_move 35 = .ok (.iastore, 1) := by decide +kernel
theorem dX0_move_36 : decode cX0_move 36 = .ok (.iload_n 2, 1) := by decide +kernel
theorem dX0_move_37 : decode cX0_move 37 = .ok (.ifCond .le 24, 3) := by decide +kernel
theorem dX0_move_40 : decode cX0_move 40 = .ok (.aload_n 0, 1) := by decide +kernel
theorem dX0_move_41 : decode cX0_move 41 = .ok (.iconst 1, 1) := by decide +kernel
theorem dX0_move_42 : decode cX0_move 42 = .ok (.aload_n 0, 1) := by decide +kernel
theorem dX0_move_43 : decode cX0_move 43 = .ok (.getfield 25, 3) := by decide +kernel
theorem dX0_move_46 : decode cX0_move 46 = .ok (.isub, 1) := by decide +kernel
theorem dX0_move_47 : decode cX0_move 47 = .ok (.bipush 25, 2) := by decide +kernel
theorem dX0_move_49 : decode cX0_move 49 = .ok (.iload_n 2, 1) := by decide +kernel
theorem dX0_move_50 : decode cX0_move 50 = .ok (.isub, 1) := by decide +kernel
theorem dX0_move_51 : decode cX0_move 51 = .ok (.invokevirtual 47, 3) := by decide +kernel
theorem dX0_move_54 : decode cX0_move 54 = .ok (.ifCond .le 7, 3) := by decide +kernel
theorem dX0_move_57 : decode cX0_move 57 = .ok (.iconst 1, 1) := by decide +kernel
theorem dX0_move_58 : decode cX0_move 58 = .ok (.goto 4, 3) := by decide +kernel
theorem dX0_move_61 : decode cX0_move 61 = .ok (.iconst 0, 1) := by decide +kernel
theorem dX0_move_62 : decode cX0_move 62 = .ok (.istore_n 3, 1) := by decide +kernel
theorem dX0_move_63 : decode cX0_move 63 = .ok (.iload_n 3, 1) := by decide +kernel
theorem dX0_move_64 : decode cX0_move 64 = .ok (.ifCond .eq 47, 3) := by decide +kernel
theorem dX0_move_67 : decode cX0_move 67 = .ok (.aload_n 0, 1) := by decide +kernel
theorem dX0_move_68 : decode cX0_move 68 = .ok (.getfield 9, 3) := by decide +kernel
theorem dX0_move_71 : decode cX0_move 71 = .ok (.iconst 1, 1) := by decide +kernel
theorem dX0_move_72 : decode cX0_move 72 = .ok (.aload_n 0, 1) := by decide +kernel
theorem dX0_move_73 : decode cX0_move 73 = .ok (.getfield 25, 3) := by decide +kernel
theorem dX0_move_76 : decode cX0_move 76 = .ok (.isub, 1) := by decide +kernel
theorem dX0_move_77 : decode cX0_move 77 = .ok (.bipush 26, 2) := by decide +kernel
theorem dX0_move_79 : decode cX0_move 79 = .ok (.imul, 1) := by decide +kernel
theorem dX0_move_80 : decode cX0_move 80 = .ok (.bipush 25, 2) := by decide +kernel
theorem dX0_move_82 : decode cX0_move 82 = .ok (.iadd, 1) := by decide +kernel
theorem dX0_move_83 : decode cX0_move 83 = .ok (.iload_n 2, 1) := by decide +kernel
theorem dX0_move_84 : decode cX0_move 84 = .ok (.isub, 1) := by decide +kernel
theorem dX0_move_85 : decode cX0_move 85 = .ok (.dup2, 1) := by decide +kernel
theorem dX0_move_86 : decode cX0_move 86 = .ok (.iaload, 1) := by decide +kernel
theorem dX0_move_87 : decode cX0_move 87 = .ok (.iconst 1, 1) := by decide +kernel
theorem dX0_move_88 : decode cX0_move 88 = .ok (.isub, 1) := by decide +kernel
theorem dX0_move_89 : decode cX0_move 89 = .ok (.iastore, 1) := by decide +kernel
theorem dX0_move_90 : decode cX0_move 90 = .ok (.aload_n 0, 1) := by decide +kernel
theorem dX0_move_91 : decode cX0_move 91 = .ok (.getfield 9, 3) := by decide +kernel
theorem dX0_move_94 : decode cX0_move 94 = .ok (.iconst 1, 1) := by decide +kernel
theorem dX0_move_95 : decode cX0_move 95 = .ok (.aload_n 0, 1) := by decide +kernel
theorem dX0_move_96 : decode cX0_move 96 = .ok (.getfield 25, 3) := by decide +kernel
theorem dX0_move_99 : decode cX0_move 99 = .ok (.isub, 1) := by decide +kernel
theorem dX0_move_100 : decode cX0_move 100 = .ok (.bipush 26, 2) := by decide +kernel
theorem dX0_move_102 : decode cX0_move 102 = .ok (.imul, 1) := by decide +kernel
theorem dX0_move_103 : decode cX0_move 103 = .ok (.bipush 25, 2) := by decide +kernel
theorem dX0_move_105 : decode cX0_move 105 = .ok (.iadd, 1) := by decide +kernel
theorem dX0_move_106 : decode cX0_move 106 = .ok (.dup2, 1) := by decide +kernel
theorem dX0_move_107 : decode cX0_move 107 = .ok (.iaload, 1) := by decide +kernel
theorem dX0_move_108 : decode cX0_move 108 = .ok (.iconst 1, 1) := by decide +kernel
theorem dX0_move_109 : decode cX0_move 109 = .ok (.iadd, 1) := by decide +kernel
theorem dX0_move_110 : decode cX0_move 110 = .ok (.iastore, 1) := by decide +kernel
theorem dX0_move_111 : decode cX0_move 111 = .ok (.iload_n 3, 1) := by decide +kernel
theorem dX0_move_112 : decode cX0_move 112 = .ok (.ireturn, 1) := by decide +kernel
theorem dX0_unmove_0 : decode cX0_unmove 0 = .ok (.aload_n 0, 1) := by decide +kernel
theorem dX0_unmove_1 : decode cX0_unmove 1 = .ok (.getfield 9, 3) := by decide +kernel
theorem dX0_unmove_4 : decode cX0_unmove 4 = .ok (.aload_n 0, 1) := by decide +kernel
theorem dX0_unmove_5 : decode cX0_unmove 5 = .ok (.getfield 25, 3) := by decide +kernel
theorem dX0_unmove_8 : decode cX0_unmove 8 = .ok (.bipush 26, 2) := by decide +kernel
theorem dX0_unmove_10 : decode cX0_unmove 10 = .ok (.imul, 1) := by decide +kernel
theorem dX0_unmove_11 : decode cX0_unmove 11 = .ok (.iload_n 2, 1) := by decide +kernel
theorem dX0_unmove_12 : decode cX0_unmove 12 = .ok (.iadd, 1) := by decide +kernel
theorem dX0_unmove_13 : decode cX0_unmove 13 = .ok (.dup2, 1) := by decide +kernel
theorem dX0_unmove_14 : decode cX0_unmove 14 = .ok (.iaload, 1) := by decide +kernel
theorem dX0_unmove_15 : decode cX0_unmove 15 = .ok (.iconst 1, 1) := by decide +kernel
theorem dX0_unmove_16 : decode cX0_unmove 16 = .ok (.isub, 1) := by decide +kernel
theorem dX0_unmove_17 : decode cX0_unmove 17 = .ok (.iastore, 1) := by decide +kernel
theorem dX0_unmove_18 : decode cX0_unmove 18 = .ok (.aload_n 0, 1) := by decide +kernel
theorem dX0_unmove_19 : decode cX0_unmove 19 = .ok (.getfield 9, 3) := by decide +kernel
theorem dX0_unmove_22 : decode cX0_unmove 22 = .ok (.aload_n 0, 1) := by decide +kernel
theorem dX0_unmove_23 : decode cX0_unmove 23 = .ok (.getfield 25, 3) := by decide +kernel
theorem dX0_unmove_26 : decode cX0_unmove 26 = .ok (.bipush 26, 2) := by decide +kernel
theorem dX0_unmove_28 : decode cX0_unmove 28 = .ok (.imul, 1) := by decide +kernel
theorem dX0_unmove_29 : decode cX0_unmove 29 = .ok (.iload_n 1, 1) := by decide +kernel
theorem dX0_unmove_30 : decode cX0_unmove 30 = .ok (.iadd, 1) := by decide +kernel
theorem dX0_unmove_31 : decode cX0_unmove 31 = .ok (.dup2, 1) := by decide +kernel
theorem dX0_unmove_32 : decode cX0_unmove 32 = .ok (.iaload, 1) := by decide +kernel
theorem dX0_unmove_33 : decode cX0_unmove 33 = .ok (.iconst 1, 1) := by decide +kernel
theorem dX0_unmove_34 : decode cX0_unmove 34 = .ok (.iadd, 1) := by decide +kernel
theorem dX0_unmove_35 : decode cX0_unmove 35 = .ok (.iastore, 1) := by decide +kernel
theorem dX0_unmove_36 : decode cX0_unmove 36 = .ok (.iload_n 3, 1) := by decide +kernel
theorem dX0_unmove_37 : decode cX0_unmove 37 = .ok (.ifCond .eq 47, 3) := by decide +kernel
theorem dX0_unmove_40 : decode cX0_unmove 40 = .ok (.aload_n 0, 1) := by decide +kernel
theorem dX0_unmove_41 : decode cX0_unmove 41 = .ok (.getfield 9, 3) := by decide +kernel
theorem dX0_unmove_44 : decode cX0_unmove 44 = .ok (.iconst 1, 1) := by decide +kernel
theorem dX0_unmove_45 : decode cX0_unmove 45 = .ok (.aload_n 0, 1) := by decide +kernel
theorem dX0_unmove_46 : decode cX0_unmove 46 = .ok (.getfield 25, 3) := by decide +kernel
theorem dX0_unmove_49 : decode cX0_unmove 49 = .ok (.isub, 1) := by decide +kernel
theorem dX0_unmove_50 : decode cX0_unmove 50 = .ok (.bipush 26, 2) := by decide +kernel
theorem dX0_unmove_52 : decode cX0_unmove 52 = .ok (.imul, 1) := by decide +kernel
theorem dX0_unmove_53 : decode cX0_unmove 53 = .ok (.bipush 25, 2) := by decide +kernel
theorem dX0_unmove_55 : decode cX0_unmove 55 = .ok (.iadd, 1) := by decide +kernel
theorem dX0_unmove_56 : decode cX0_unmove 56 = .ok (.dup2, 1) := by decide +kernel
theorem dX0_unmove_57 : decode cX0_unmove 57 = .ok (.iaload, 1) := by decide +kernel
theorem dX0_unmove_58 : decode cX0_unmove 58 = .ok (.iconst 1, 1) := by decide +kernel
theorem dX0_unmove_59 : decode cX0_unmove 59 = .ok (.isub, 1) := by decide +kernel
theorem dX0_unmove_60 : decode cX0_unmove 60 = .ok (.iastore, 1) := by decide +kernel
theorem dX0_unmove_61 : decode cX0_unmove 61 = .ok (.aload_n 0, 1) := by decide +kernel
theorem dX0_unmove_62 : decode cX0_unmove 62 = .ok (.getfield 9, 3) := by decide +kernel
theorem dX0_unmove_65 : decode cX0_unmove 65 = .ok (.iconst 1, 1) := by decide +kernel
theorem dX0_unmove_66 : decode cX0_unmove 66 = .ok (.aload_n 0, 1) := by decide +kernel
theorem dX0_unmove_67 : decode cX0_unmove 67 = .ok (.getfield 25, 3) := by decide +kernel
theorem dX0_unmove_70 : decode cX0_unmove 70 = .ok (.isub, 1) := by decide +kernel
theorem dX0_unmove_71 : decode cX0_unmove 71 = .ok (.bipush 26, 2) := by decide +kernel
theorem dX0_unmove_73 : decode cX0_unmove 73 = .ok (.imul, 1) := by decide +kernel
theorem dX0_unmove_74 : decode cX0_unmove 74 = .ok (.bipush 25, 2) := by decide +kernel
theorem dX0_unmove_76 : decode cX0_unmove 76 = .ok (.iadd, 1) := by decide +kernel
theorem dX0_unmove_77 : decode cX0_unmove 77 = .ok (.iload_n 2, 1) := by decide +kernel
theorem dX0_unmove_78 : decode cX0_unmove 78 = .ok (.isub, 1) := by decide +kernel
theorem dX0_unmove_79 : decode cX0_unmove 79 = .ok (.dup2, 1) := by decide +kernel
theorem dX0_unmove_80 : decode cX0_unmove 80 = .ok (.iaload, 1) := by decide +kernel
theorem dX0_unmove_81 : decode cX0_unmove 81 = .ok (.iconst 1, 1) := by decide +kernel
theorem dX0_unmove_82 : decode cX0_unmove 82 = .ok (.iadd, 1) := by decide +kernel
theorem dX0_unmove_83 : decode cX0_unmove 83 = .ok (.iastore, 1) := by decide +kernel
theorem dX0_unmove_84 : decode cX0_unmove 84 = .ok (.return_, 1) := by decide +kernel
theorem dX0_half_0 : decode cX0_half 0 = .ok (.lconst 0, 1) := by decide +kernel
theorem dX0_half_1 : decode cX0_half 1 = .ok (.lstore_n 3, 1) := by decide +kernel
theorem dX0_half_2 : decode cX0_half 2 = .ok (.iload_n 2, 1) := by decide +kernel
theorem dX0_half_3 : decode cX0_half 3 = .ok (.istore 5, 2) := by decide +kernel
theorem dX0_half_5 : decode cX0_half 5 = .ok (.iload 5, 2) := by decide +kernel
theorem dX0_half_7 : decode cX0_half 7 = .ok (.iload_n 2, 1) := by decide +kernel
theorem dX0_half_8 : decode cX0_half 8 = .ok (.bipush 13, 2) := by decide +kernel
theorem dX0_half_10 : decode cX0_half 10 = .ok (.isub, 1) := by decide +kernel
theorem dX0_half_11 : decode cX0_half 11 = .ok (.if_icmp .le 27, 3) := by decide +kernel
theorem dX0_half_14 : decode cX0_half 14 = .ok (.lload_n 3, 1) := by decide +kernel
theorem dX0_half_15 : decode cX0_half 15 = .ok (.iconst 4, 1) := by decide +kernel
theorem dX0_half_16 : decode cX0_half 16 = .ok (.lshl, 1) := by decide +kernel
theorem dX0_half_17 : decode cX0_half 17 = .ok (.aload_n 0, 1) := by decide +kernel
theorem dX0_half_18 : decode cX0_half 18 = .ok (.getfield 9, 3) := by decide +kernel
theorem dX0_half_21 : decode cX0_half 21 = .ok (.iload_n 1, 1) := by decide +kernel
theorem dX0_half_22 : decode cX0_half 22 = .ok (.bipush 26, 2) := by decide +kernel
theorem dX0_half_24 : decode cX0_half 24 = .ok (.imul, 1) := by decide +kernel
theorem dX0_half_25 : decode cX0_half 25 = .ok (.iload 5, 2) := by decide +kernel
theorem dX0_half_27 : decode cX0_half 27 = .ok (.iadd, 1) := by decide +kernel
theorem dX0_half_28 : decode cX0_half 28 = .ok (.iaload, 1) := by decide +kernel
theorem dX0_half_29 : decode cX0_half 29 = .ok (.i2l, 1) := by decide +kernel
theorem dX0_half_30 : decode cX0_half 30 = .ok (.lor, 1) := by decide +kernel
theorem dX0_half_31 : decode cX0_half 31 = .ok (.lstore_n 3, 1) := by decide +kernel
theorem dX0_half_32 : decode cX0_half 32 = .ok (.iinc 5 (-1), 3) := by decide +kernel
theorem dX0_half_35 : decode cX0_half 35 = .ok (.goto (-30), 3) := by decide +kernel
theorem dX0_half_38 : decode cX0_half 38 = .ok (.lload_n 3, 1) := by decide +kernel
theorem dX0_half_39 : decode cX0_half 39 = .ok (.lreturn, 1) := by decide +kernel
theorem dX0_putHalf_0 : decode cX0_putHalf 0 = .ok (.iconst 0, 1) := by decide +kernel
theorem dX0_putHalf_1 : decode cX0_putHalf 1 = .ok (.istore 5, 2) := by decide +kernel
theorem dX0_putHalf_3 : decode cX0_putHalf 3 = .ok (.iload 5, 2) := by decide +kernel
theorem dX0_putHalf_5 : decode cX0_putHalf 5 = .ok (.bipush 13, 2) := by decide +kernel
theorem dX0_putHalf_7 : decode cX0_putHalf 7 = .ok (.if_icmp .ge 33, 3) := by decide +kernel
theorem dX0_putHalf_10 : decode cX0_putHalf 10 = .ok (.aload_n 0, 1) := by decide +kernel
theorem dX0_putHalf_11 : decode cX0_putHalf 11 = .ok (.iload_n 1, 1) := by decide +kernel
theorem dX0_putHalf_12 : decode cX0_putHalf 12 = .ok (.iload_n 2, 1) := by decide +kernel
theorem dX0_putHalf_13 : decode cX0_putHalf 13 = .ok (.bipush 13, 2) := by decide +kernel
theorem dX0_putHalf_15 : decode cX0_putHalf 15 = .ok (.isub, 1) := by decide +kernel
theorem dX0_putHalf_16 : decode cX0_putHalf 16 = .ok (.iconst 1, 1) := by decide +kernel
theorem dX0_putHalf_17 : decode cX0_putHalf 17 = .ok (.iadd, 1) := by decide +kernel
theorem dX0_putHalf_18 : decode cX0_putHalf 18 = .ok (.iload 5, 2) := by decide +kernel
theorem dX0_putHalf_20 : decode cX0_putHalf 20 = .ok (.iadd, 1) := by decide +kernel
theorem dX0_putHalf_21 : decode cX0_putHalf 21 = .ok (.lload_n 3, 1) := by decide +kernel
theorem dX0_putHalf_22 : decode cX0_putHalf 22 = .ok (.iconst 4, 1) := by decide +kernel
theorem dX0_putHalf_23 : decode cX0_putHalf 23 = .ok (.iload 5, 2) := by decide +kernel
theorem dX0_putHalf_25 : decode cX0_putHalf 25 = .ok (.imul, 1) := by decide +kernel
theorem dX0_putHalf_26 : decode cX0_putHalf 26 = .ok (.lushr, 1) := by decide +kernel
theorem dX0_putHalf_27 : decode cX0_putHalf 27 = .ok (.l2i, 1) := by decide +kernel
theorem dX0_putHalf_28 : decode cX0_putHalf 28 = .ok (.bipush 15, 2) := by decide +kernel
theorem dX0_putHalf_30 : decode cX0_putHalf 30 = .ok (.iand, 1) := by decide +kernel
theorem dX0_putHalf_31 : decode cX0_putHalf 31 = .ok (.invokevirtual 21, 3) := by decide +kernel
theorem dX0_putHalf_34 : decode cX0_putHalf 34 = .ok (.iinc 5 1, 3) := by decide +kernel
theorem dX0_putHalf_37 : decode cX0_putHalf 37 = .ok (.goto (-34), 3) := by decide +kernel
theorem dX0_putHalf_40 : decode cX0_putHalf 40 = .ok (.return_, 1) := by decide +kernel
theorem dX1_init_0 : decode cX1_init 0 = .ok (.aload_n 0, 1) := by decide +kernel
theorem dX1_init_1 : decode cX1_init 1 = .ok (.invokespecial 3, 3) := by decide +kernel
theorem dX1_init_4 : decode cX1_init 4 = .ok (.aload_n 0, 1) := by decide +kernel
theorem dX1_init_5 : decode cX1_init 5 = .ok (.sipush 400, 3) := by decide +kernel
theorem dX1_init_8 : decode cX1_init 8 = .ok (.newarray .int, 2) := by decide +kernel
theorem dX1_init_10 : decode cX1_init 10 = .ok (.putfield 9, 3) := by decide +kernel
theorem dX1_init_13 : decode cX1_init 13 = .ok (.return_, 1) := by decide +kernel
theorem dX1_add_0 : decode cX1_add 0 = .ok (.aload_n 0, 1) := by decide +kernel
theorem dX1_add_1 : decode cX1_add 1 = .ok (.getfield 15, 3) := by decide +kernel
theorem dX1_add_4 : decode cX1_add 4 = .ok (.aload_n 0, 1) := by decide +kernel
theorem dX1_add_5 : decode cX1_add 5 = .ok (.getfield 9, 3) := by decide +kernel
theorem dX1_add_8 : decode cX1_add 8 = .ok (.arraylength, 1) := by decide +kernel
theorem dX1_add_9 : decode cX1_add 9 = .ok (.if_icmp .ge 27, 3) := by decide +kernel
theorem dX1_add_12 : decode cX1_add 12 = .ok (.aload_n 0, 1) := by decide +kernel
theorem dX1_add_13 : decode cX1_add 13 = .ok (.getfield 9, 3) := by decide +kernel
theorem dX1_add_16 : decode cX1_add 16 = .ok (.aload_n 0, 1) := by decide +kernel
theorem dX1_add_17 : decode cX1_add 17 = .ok (.getfield 15, 3) := by decide +kernel
theorem dX1_add_20 : decode cX1_add 20 = .ok (.iload_n 1, 1) := by decide +kernel
theorem dX1_add_21 : decode cX1_add 21 = .ok (.sipush 255, 3) := by decide +kernel
theorem dX1_add_24 : decode cX1_add 24 = .ok (.iand, 1) := by decide +kernel
theorem dX1_add_25 : decode cX1_add 25 = .ok (.iastore, 1) := by decide +kernel
theorem dX1_add_26 : decode cX1_add 26 = .ok (.aload_n 0, 1) := by decide +kernel
theorem dX1_add_27 : decode cX1_add 27 = .ok (.dup, 1) := by decide +kernel
theorem dX1_add_28 : decode cX1_add 28 = .ok (.getfield 15, 3) := by decide +kernel
theorem dX1_add_31 : decode cX1_add 31 = .ok (.iconst 1, 1) := by decide +kernel
theorem dX1_add_32 : decode cX1_add 32 = .ok (.iadd, 1) := by decide +kernel
theorem dX1_add_33 : decode cX1_add 33 = .ok (.putfield 15, 3) := by decide +kernel
theorem dX1_add_36 : decode cX1_add 36 = .ok (.return_, 1) := by decide +kernel
theorem dX1_addNumber_0 : decode cX1_addNumber 0 = .ok (.aload_n 0, 1) := by decide +kernel
theorem dX1_addNumber_1 : decode cX1_addNumber 1 = .ok (.iload_n 1, 1) := by decide +kernel
theorem dX1_addNumber_2 : decode cX1_addNumber 2 = .ok (.bipush 24, 2) := by decide +kernel
theorem dX1_addNumber_4 : decode cX1_addNumber 4 = .ok (.iushr, 1) := by decide +kernel
theorem dX1_addNumber_5 : decode cX1_addNumber 5 = .ok (.invokevirtual 19, 3) := by decide +kernel
theorem dX1_addNumber_8 : decode cX1_addNumber 8 = .ok (.aload_n 0, 1) := by decide +kernel
theorem dX1_addNumber_9 : decode cX1_addNumber 9 = .ok (.iload_n 1, 1) := by decide +kernel
theorem dX1_addNumber_10 : decode cX1_addNumber 10 = .ok (.bipush 16, 2) := by decide +kernel
theorem dX1_addNumber_12 : decode cX1_addNumber 12 = .ok (.iushr, 1) := by decide +kernel
theorem dX1_addNumber_13 : decode cX1_addNumber 13 = .ok (.invokevirtual 19, 3) := by decide +kernel
theorem dX1_addNumber_16 : decode cX1_addNumber 16 = .ok (.aload_n 0, 1) := by decide +kernel
theorem dX1_addNumber_17 : decode cX1_addNumber 17 = .ok (.iload_n 1, 1) := by decide +kernel
theorem dX1_addNumber_18 : decode cX1_addNumber 18 = .ok (.bipush 8, 2) := by decide +kernel
theorem dX1_addNumber_20 : decode cX1_addNumber 20 = .ok (.iushr, 1) := by decide +kernel
theorem dX1_addNumber_21 : decode cX1_addNumber 21 = .ok (.invokevirtual 19, 3) := by decide +kernel
theorem dX1_addNumber_24 : decode cX1_addNumber 24 = .ok (.aload_n 0, 1) := by decide +kernel
theorem dX1_addNumber_25 : decode cX1_addNumber 25 = .ok (.iload_n 1, 1) := by decide +kernel
theorem dX1_addNumber_26 : decode cX1_addNumber 26 = .ok (.invokevirtual 19, 3) := by decide +kernel
theorem dX1_addNumber_29 : decode cX1_addNumber 29 = .ok (.return_, 1) := by decide +kernel
theorem dX1_at_0 : decode cX1_at 0 = .ok (.iload_n 1, 1) := by decide +kernel
theorem dX1_at_1 : decode cX1_at 1 = .ok (.ifCond .lt 11, 3) := by decide +kernel
theorem dX1_at_4 : decode cX1_at 4 = .ok (.iload_n 1, 1) := by decide +kernel
theorem dX1_at_5 : decode cX1_at 5 = .ok (.aload_n 0, 1) := by decide +kernel
theorem dX1_at_6 : decode cX1_at 6 = .ok (.getfield 15, 3) := by decide +kernel
theorem dX1_at_9 : decode cX1_at 9 = .ok (.if_icmp .lt 7, 3) := by decide +kernel
theorem dX1_at_12 : decode cX1_at 12 = .ok (.iconst (-1), 1) := by decide +kernel
theorem dX1_at_13 : decode cX1_at 13 = .ok (.goto 9, 3) := by decide +kernel
theorem dX1_at_16 : decode cX1_at 16 = .ok (.aload_n 0, 1) := by decide +kernel
theorem dX1_at_17 : decode cX1_at 17 = .ok (.getfield 9, 3) := by decide +kernel
theorem dX1_at_20 : decode cX1_at 20 = .ok (.iload_n 1, 1) := by decide +kernel
theorem dX1_at_21 : decode cX1_at 21 = .ok (.iaload, 1) := by decide +kernel
theorem dX1_at_22 : decode cX1_at 22 = .ok (.ireturn, 1) := by decide +kernel
theorem dX2_init_0 : decode cX2_init 0 = .ok (.aload_n 0, 1) := by decide +kernel
theorem dX2_init_1 : decode cX2_init 1 = .ok (.invokespecial 3, 3) := by decide +kernel
theorem dX2_init_4 : decode cX2_init 4 = .ok (.aload_n 0, 1) := by decide +kernel
theorem dX2_init_5 : decode cX2_init 5 = .ok (.iconst 2, 1) := by decide +kernel
theorem dX2_init_6 : decode cX2_init 6 = .ok (.newarray .int, 2) := by decide +kernel
theorem dX2_init_8 : decode cX2_init 8 = .ok (.putfield 9, 3) := by decide +kernel
theorem dX2_init_11 : decode cX2_init 11 = .ok (.aload_n 0, 1) := by decide +kernel
theorem dX2_init_12 : decode cX2_init 12 = .ok (.iconst (-1), 1) := by decide +kernel
theorem dX2_init_13 : decode cX2_init 13 = .ok (.putfield 15, 3) := by decide +kernel
theorem dX2_init_16 : decode cX2_init 16 = .ok (.aload_n 0, 1) := by decide +kernel
theorem dX2_init_17 : decode cX2_init 17 = .ok (.iconst (-1), 1) := by decide +kernel
theorem dX2_init_18 : decode cX2_init 18 = .ok (.putfield 19, 3) := by decide +kernel
theorem dX2_init_21 : decode cX2_init 21 = .ok (.aload_n 0, 1) := by decide +kernel
theorem dX2_init_22 : decode cX2_init 22 = .ok (.iconst 1, 1) := by decide +kernel
theorem dX2_init_23 : decode cX2_init 23 = .ok (.putfield 22, 3) := by decide +kernel
theorem dX2_init_26 : decode cX2_init 26 = .ok (.return_, 1) := by decide +kernel
theorem dX2_isUnderWay_0 : decode cX2_isUnderWay 0 = .ok (.aload_n 0, 1) := by decide +kernel
theorem dX2_isUnderWay_1 : decode cX2_isUnderWay 1 = .ok (.getfield 25, 3) := by decide +kernel
theorem dX2_isUnderWay_4 : decode cX2_isUnderWay 4 = .ok (.ifCond .eq 16, 3) := by decide +kernel
theorem dX2_isUnderWay_7 : decode cX2_isUnderWay 7 = .ok (.aload_n 0, 1) := by decide +kernel
theorem dX2_isUnderWay_8 : decode cX2_isUnderWay 8 = .ok (.getfield 25, 3) := by decide +kernel
theorem dX2_isUnderWay_11 : decode cX2_isUnderWay 11 = .ok (.bipush 6, 2) := by decide +kernel
theorem dX2_isUnderWay_13 : decode cX2_isUnderWay 13 = .ok (.if_icmp .eq 7, 3) := by decide +kernel
theorem dX2_isUnderWay_16 : decode cX2_isUnderWay 16 = .ok (.iconst 1, 1) := by decide +kernel
theorem dX2_isUnderWay_17 : decode cX2_isUnderWay 17 = .ok (.goto 4, 3) := by decide +kernel
theorem dX2_isUnderWay_20 : decode cX2_isUnderWay 20 = .ok (.iconst 0, 1) := by decide +kernel
theorem dX2_isUnderWay_21 : decode cX2_isUnderWay 21 = .ok (.ireturn, 1) := by decide +kernel
theorem dX2_open_0 : decode cX2_open 0 = .ok (.aload_n 0, 1) := by decide +kernel
theorem dX2_open_1 : decode cX2_open 1 = .ok (.iload_n 1, 1) := by decide +kernel
theorem dX2_open_2 : decode cX2_open 2 = .ok (.putfield 28, 3) := by decide +kernel
theorem dX2_open_5 : decode cX2_open 5 = .ok (.aload_n 0, 1) := by decide +kernel
theorem dX2_open_6 : decode cX2_open 6 = .ok (.getfield 9, 3) := by decide +kernel
theorem dX2_open_9 : decode cX2_open 9 = .ok (.iconst 0, 1) := by decide +kernel
theorem dX2_open_10 : decode cX2_open 10 = .ok (.iconst 0, 1) := by decide +kernel
theorem dX2_open_11 : decode cX2_open 11 = .ok (.iastore, 1) := by decide +kernel
theorem dX2_open_12 : decode cX2_open 12 = .ok (.aload_n 0, 1) := by decide +kernel
theorem dX2_open_13 : decode cX2_open 13 = .ok (.getfield 9, 3) := by decide +kernel
theorem dX2_open_16 : decode cX2_open 16 = .ok (.iconst 1, 1) := by decide +kernel
theorem dX2_open_17 : decode cX2_open 17 = .ok (.iconst 0, 1) := by decide +kernel
theorem dX2_open_18 : decode cX2_open 18 = .ok (.iastore, 1) := by decide +kernel
theorem dX2_open_19 : decode cX2_open 19 = .ok (.aload_n 0, 1) := by decide +kernel
theorem dX2_open_20 : decode cX2_open 20 = .ok (.iconst 0, 1) := by decide +kernel
theorem dX2_open_21 : decode cX2_open 21 = .ok (.putfield 31, 3) := by decide +kernel
theorem dX2_open_24 : decode cX2_open 24 = .ok (.aload_n 0, 1) := by decide +kernel
theorem dX2_open_25 : decode cX2_open 25 = .ok (.iconst 0, 1) := by decide +kernel
theorem dX2_open_26 : decode cX2_open 26 = .ok (.putfield 34, 3) := by decide +kernel
theorem dX2_open_29 : decode cX2_open 29 = .ok (.aload_n 0, 1) := by decide +kernel
theorem dX2_open_30 : decode cX2_open 30 = .ok (.iconst 0, 1) := by decide +kernel
theorem dX2_open_31 : decode cX2_open 31 = .ok (.putfield 37, 3) := by decide +kernel
theorem dX2_open_34 : decode cX2_open 34 = .ok (.aload_n 0, 1) := by decide +kernel
theorem dX2_open_35 : decode cX2_open 35 = .ok (.iconst (-1), 1) := by decide +kernel
theorem dX2_open_36 : decode cX2_open 36 = .ok (.putfield 19, 3) := by decide +kernel
theorem dX2_open_39 : decode cX2_open 39 = .ok (.aload_n 0, 1) := by decide +kernel
theorem dX2_open_40 : decode cX2_open 40 = .ok (.iconst 0, 1) := by decide +kernel
theorem dX2_open_41 : decode cX2_open 41 = .ok (.putfield 40, 3) := by decide +kernel
theorem dX2_open_44 : decode cX2_open 44 = .ok (.aload_n 0, 1) := by decide +kernel
theorem dX2_open_45 : decode cX2_open 45 = .ok (.iconst 0, 1) := by decide +kernel
theorem dX2_open_46 : decode cX2_open 46 = .ok (.putfield 44, 3) := by decide +kernel
theorem dX2_open_49 : decode cX2_open 49 = .ok (.return_, 1) := by decide +kernel
theorem dX2_openGame_0 : decode cX2_openGame 0 = .ok (.aload_n 0, 1) := by decide +kernel
theorem dX2_openGame_1 : decode cX2_openGame 1 = .ok (.iconst 1, 1) := by decide +kernel
theorem dX2_openGame_2 : decode cX2_openGame 2 = .ok (.putfield 25, 3) := by decide +kernel
theorem dX2_openGame_5 : decode cX2_openGame 5 = .ok (.aload_n 0, 1) := by decide +kernel
theorem dX2_openGame_6 : decode cX2_openGame 6 = .ok (.iconst 1, 1) := by decide +kernel
theorem dX2_openGame_7 : decode cX2_openGame 7 = .ok (.putfield 22, 3) := by decide +kernel
theorem dX2_openGame_10 : decode cX2_openGame 10 = .ok (.aload_n 0, 1) := by decide +kernel
theorem dX2_openGame_11 : decode cX2_openGame 11 = .ok (.iconst (-1), 1) := by decide +kernel
theorem dX2_openGame_12 : decode cX2_openGame 12 = .ok (.putfield 15, 3) := by decide +kernel
theorem dX2_openGame_15 : decode cX2_openGame 15 = .ok (.aload_n 0, 1) := by decide +kernel
theorem dX2_openGame_16 : decode cX2_openGame 16 = .ok (.aload_n 0, 1) := by decide +kernel
theorem dX2_openGame_17 : decode cX2_openGame 17 = .ok (.getfield 40, 3) := by decide +kernel
theorem dX2_openGame_20 : decode cX2_openGame 20 = .ok (.putfield 47, 3) := by decide +kernel
theorem dX2_openGame_23 : decode cX2_openGame 23 = .ok (.aload_n 0, 1) := by decide +kernel
theorem dX2_openGame_24 : decode cX2_openGame 24 = .ok (.iconst 0, 1) := by decide +kernel
theorem dX2_openGame_25 : decode cX2_openGame 25 = .ok (.putfield 40, 3) := by decide +kernel
theorem dX2_openGame_28 : decode cX2_openGame 28 = .ok (.aload_n 0, 1) := by decide +kernel
theorem dX2_openGame_29 : decode cX2_openGame 29 = .ok (.dup, 1) := by decide +kernel
theorem dX2_openGame_30 : decode cX2_openGame 30 = .ok (.getfield 31, 3) := by decide +kernel
theorem dX2_openGame_33 : decode cX2_openGame 33 = .ok (.iconst 1, 1) := by decide +kernel
theorem dX2_openGame_34 : decode cX2_openGame 34 = .ok (.iadd, 1) := by decide +kernel
theorem dX2_openGame_35 : decode cX2_openGame 35 = .ok (.putfield 31, 3) := by decide +kernel
theorem dX2_openGame_38 : decode cX2_openGame 38 = .ok (.aload_n 0, 1) := by decide +kernel
theorem dX2_openGame_39 : decode cX2_openGame 39 = .ok (.iconst 0, 1) := by decide +kernel
theorem dX2_openGame_40 : decode cX2_openGame 40 = .ok (.iconst 0, 1) := by decide +kernel
theorem dX2_openGame_41 : decode cX2_openGame 41 = .ok (.invokevirtual 50, 3) := by decide +kernel
theorem dX2_openGame_44 : decode cX2_openGame 44 = .ok (.return_, 1) := by decide +kernel
theorem dX2_setDice_0 : decode cX2_setDice 0 = .ok (.aload_n 0, 1) := by decide +kernel
theorem dX2_setDice_1 : decode cX2_setDice 1 = .ok (.iload_n 1, 1) := by decide +kernel
theorem dX2_setDice_2 : decode cX2_setDice 2 = .ok (.iload_n 2, 1) := by decide +kernel
theorem dX2_setDice_3 : decode cX2_setDice 3 = .ok (.invokestatic 54, 3) := by decide +kernel
theorem dX2_setDice_6 : decode cX2_setDice 6 = .ok (.putfield 60, 3) := by decide +kernel
theorem dX2_setDice_9 : decode cX2_setDice 9 = .ok (.aload_n 0, 1) := by decide +kernel
theorem dX2_setDice_10 : decode cX2_setDice 10 = .ok (.iload_n 1, 1) := by decide +kernel
theorem dX2_setDice_11 : decode cX2_setDice 11 = .ok (.iload_n 2, 1) := by decide +kernel
theorem dX2_setDice_12 : decode cX2_setDice 12 = .ok (.invokestatic 63, 3) := by decide +kernel
theorem dX2_setDice_15 : decode cX2_setDice 15 = .ok (.putfield 66, 3) := by decide +kernel
theorem dX2_setDice_18 : decode cX2_setDice 18 = .ok (.return_, 1) := by decide +kernel
theorem dX2_takeFirstDice_0 : decode cX2_takeFirstDice 0 = .ok (.iload_n 1, 1) := by decide +kernel
theorem dX2_takeFirstDice_1 : decode cX2_takeFirstDice 1 = .ok (.iload_n 2, 1) := by decide +kernel
theorem dX2_takeFirstDice_2 : decode cX2_takeFirstDice 2 = .ok (.if_icmp .ne 16, 3) := by decide +kernel
theorem dX2_takeFirstDice_5 : decode cX2_takeFirstDice 5 = .ok (.aload_n 0, 1) := by decide +kernel
theorem dX2_takeFirstDice_6 : decode cX2_takeFirstDice 6 = .ok (.dup, 1) := by decide +kernel
theorem dX2_takeFirstDice_7 : decode cX2_takeFirstDice 7 = .ok (.getfield 34, 3) := by decide +kernel
theorem dX2_takeFirstDice_10 : decode cX2_takeFirstDice 10 = .ok (.iconst 1, 1) := by decide +kernel
theorem dX2_takeFirstDice_11 : decode cX2_takeFirstDice 11 = .ok (.iadd, 1) := by decide +kernel
theorem dX2_takeFirstDice_12 : decode cX2_takeFirstDice 12 = .ok (.putfield 34, 3) := by decide +kernel
theorem dX2_takeFirstDice_15 : decode cX2_takeFirstDice 15 = .ok (.goto 23, 3) := by decide +kernel
theorem dX2_takeFirstDice_18 : decode cX2_takeFirstDice 18 = .ok (.aload_n 3, 1) := by decide +kernel
theorem dX2_takeFirstDice_19 : decode cX2_takeFirstDice 19 = .ok (.iload_n 1, 1) := by decide +kernel
theorem dX2_takeFirstDice_20 : decode cX2_takeFirstDice 20 = .ok (.iload_n 2, 1) := by decide +kernel
theorem dX2_takeFirstDice_21 : decode cX2_takeFirstDice 21 = .ok (.if_icmp .le 7, 3) := by decide +kernel
theorem dX2_takeFirstDice_24 : decode cX2_takeFirstDice 24 = .ok (.iconst 0, 1) := by decide +kernel
theorem dX2_takeFirstDice_25 : decode cX2_takeFirstDice 25 = .ok (.goto 4, 3) := by decide +kernel
theorem dX2_takeFirstDice_28 : decode cX2_takeFirstDice 28 = .ok (.iconst 1, 1) := by decide +kernel
theorem dX2_takeFirstDice_29 : decode cX2_takeFirstDice 29 = .ok (.putfield 69, 3) := by decide +kernel
theorem dX2_takeFirstDice_32 : decode cX2_takeFirstDice 32 = .ok (.aload_n 0, 1) := by decide +kernel
theorem dX2_takeFirstDice_33 : decode cX2_takeFirstDice 33 = .ok (.iload_n 1, 1) := by decide +kernel
theorem dX2_takeFirstDice_34 : decode cX2_takeFirstDice 34 = .ok (.iload_n 2, 1) := by decide +kernel
theorem dX2_takeFirstDice_35 : decode cX2_takeFirstDice 35 = .ok (.invokevirtual 74, 3) := by decide +kernel
theorem dX2_takeFirstDice_38 : decode cX2_takeFirstDice 38 = .ok (.return_, 1) := by decide +kernel
theorem dX2_takeDice_0 : decode cX2_takeDice 0 = .ok (.aload_n 0, 1) := by decide +kernel
theorem dX2_takeDice_1 : decode cX2_takeDice 1 = .ok (.dup, 1) := by decide +kernel
theorem dX2_takeDice_2 : decode cX2_takeDice 2 = .ok (.getfield 34, 3) := by decide +kernel
theorem dX2_takeDice_5 : decode cX2_takeDice 5 = .ok (.iconst 1, 1) := by decide +kernel
theorem dX2_takeDice_6 : decode cX2_takeDice 6 = .ok (.iadd, 1) := by decide +kernel
theorem dX2_takeDice_7 : decode cX2_takeDice 7 = .ok (.putfield 34, 3) := by decide +kernel
theorem dX2_takeDice_10 : decode cX2_takeDice 10 = .ok (.aload_n 0, 1) := by decide +kernel
theorem dX2_takeDice_11 : decode cX2_takeDice 11 = .ok (.iload_n 1, 1) := by decide +kernel
theorem dX2_takeDice_12 : decode cX2_takeDice 12 = .ok (.iload_n 2, 1) := by decide +kernel
theorem dX2_takeDice_13 : decode cX2_takeDice 13 = .ok (.invokevirtual 50, 3) := by decide +kernel
theorem dX2_takeDice_16 : decode cX2_takeDice 16 = .ok (.aload_n 0, 1) := by decide +kernel
theorem dX2_takeDice_17 : decode cX2_takeDice 17 = .ok (.iconst 3, 1) := by decide +kernel
theorem dX2_takeDice_18 : decode cX2_takeDice 18 = .ok (.putfield 25, 3) := by decide +kernel
theorem dX2_takeDice_21 : decode cX2_takeDice 21 = .ok (.return_, 1) := by decide +kernel
theorem dX2_areDue_0 : decode cX2_areDue 0 = .ok (.aload_n 0, 1) := by decide +kernel
theorem dX2_areDue_1 : decode cX2_areDue 1 = .ok (.getfield 25, 3) := by decide +kernel
theorem dX2_areDue_4 : decode cX2_areDue 4 = .ok (.iconst 3, 1) := by decide +kernel
theorem dX2_areDue_5 : decode cX2_areDue 5 = .ok (.if_icmp .ne 31, 3) := by decide +kernel
theorem dX2_areDue_8 : decode cX2_areDue 8 = .ok (.iload_n 1, 1) := by decide +kernel
theorem dX2_areDue_9 : decode cX2_areDue 9 = .ok (.iload_n 2, 1) := by decide +kernel
theorem dX2_areDue_10 : decode cX2_areDue 10 = .ok (.invokestatic 54, 3) := by decide +kernel
theorem dX2_areDue_13 : decode cX2_areDue 13 = .ok (.aload_n 0, 1) := by decide +kernel
theorem dX2_areDue_14 : decode cX2_areDue 14 = .ok (.getfield 60, 3) := by decide +kernel
theorem dX2_areDue_17 : decode cX2_areDue 17 = .ok (.if_icmp .ne 19, 3) := by decide +kernel
theorem dX2_areDue_20 : decode cX2_areDue 20 = .ok (.iload_n 1, 1) := by decide +kernel
theorem dX2_areDue_21 : decode cX2_areDue 21 = .ok (.iload_n 2, 1) := by decide +kernel
theorem dX2_areDue_22 : decode cX2_areDue 22 = .ok (.invokestatic 63, 3) := by decide +kernel
theorem dX2_areDue_25 : decode cX2_areDue 25 = .ok (.aload_n 0, 1) := by decide +kernel
theorem dX2_areDue_26 : decode cX2_areDue 26 = .ok (.getfield 66, 3) := by decide +kernel
theorem dX2_areDue_29 : decode cX2_areDue 29 = .ok (.if_icmp .ne 7, 3) := by decide +kernel
theorem dX2_areDue_32 : decode cX2_areDue 32 = .ok (.iconst 1, 1) := by decide +kernel
theorem dX2_areDue_33 : decode cX2_areDue 33 = .ok (.goto 4, 3) := by decide +kernel
theorem dX2_areDue_36 : decode cX2_areDue 36 = .ok (.iconst 0, 1) := by decide +kernel
theorem dX2_areDue_37 : decode cX2_areDue 37 = .ok (.ireturn, 1) := by decide +kernel
theorem dX2_goOn_0 : decode cX2_goOn 0 = .ok (.aload_n 0, 1) := by decide +kernel
theorem dX2_goOn_1 : decode cX2_goOn 1 = .ok (.iconst 0, 1) := by decide +kernel
theorem dX2_goOn_2 : decode cX2_goOn 2 = .ok (.iconst 0, 1) := by decide +kernel
theorem dX2_goOn_3 : decode cX2_goOn 3 = .ok (.invokevirtual 50, 3) := by decide +kernel
theorem dX2_goOn_6 : decode cX2_goOn 6 = .ok (.aload_n 1, 1) := by decide +kernel
theorem dX2_goOn_7 : decode cX2_goOn 7 = .ok (.iconst 0, 1) := by decide +kernel
theorem dX2_goOn_8 : decode cX2_goOn 8 = .ok (.invokevirtual 77, 3) := by decide +kernel
theorem dX2_goOn_11 : decode cX2_goOn 11 = .ok (.ifCond .eq 21, 3) := by decide +kernel
theorem dX2_goOn_14 : decode cX2_goOn 14 = .ok (.aload_n 0, 1) := by decide +kernel
theorem dX2_goOn_15 : decode cX2_goOn 15 = .ok (.iconst 0, 1) := by decide +kernel
theorem dX2_goOn_16 : decode cX2_goOn 16 = .ok (.aload_n 0, 1) := by decide +kernel
theorem dX2_goOn_17 : decode cX2_goOn 17 = .ok (.getfield 22, 3) := by decide +kernel
theorem dX2_goOn_20 : decode cX2_goOn 20 = .ok (.aload_n 1, 1) := by decide +kernel
theorem dX2_goOn_21 : decode cX2_goOn 21 = .ok (.iconst 1, 1) := by decide +kernel
theorem dX2_goOn_22 : decode cX2_goOn 22 = .ok (.invokestatic 81, 3) := by decide +kernel
theorem dX2_goOn_25 : decode cX2_goOn 25 = .ok (.imul, 1) := by decide +kernel
theorem dX2_goOn_26 : decode cX2_goOn 26 = .ok (.invokevirtual 85, 3) := by decide +kernel
theorem dX2_goOn_29 : decode cX2_goOn 29 = .ok (.goto 34, 3) := by decide +kernel
theorem dX2_goOn_32 : decode cX2_goOn 32 = .ok (.aload_n 1, 1) := by decide +kernel
theorem dX2_goOn_33 : decode cX2_goOn 33 = .ok (.iconst 1, 1) := by decide +kernel
theorem dX2_goOn_34 : decode cX2_goOn 34 = .ok (.invokevirtual 77, 3) := by decide +kernel
theorem dX2_goOn_37 : decode cX2_goOn 37 = .ok (.ifCond .eq 21, 3) := by decide +kernel
theorem dX2_goOn_40 : decode cX2_goOn 40 = .ok (.aload_n 0, 1) := by decide +kernel
theorem dX2_goOn_41 : decode cX2_goOn 41 = .ok (.iconst 1, 1) := by decide +kernel
theorem dX2_goOn_42 : decode cX2_goOn 42 = .ok (.aload_n 0, 1) := by decide +kernel
theorem dX2_goOn_43 : decode cX2_goOn 43 = .ok (.getfield 22, 3) := by decide +kernel
theorem dX2_goOn_46 : decode cX2_goOn 46 = .ok (.aload_n 1, 1) := by decide +kernel
theorem dX2_goOn_47 : decode cX2_goOn 47 = .ok (.iconst 0, 1) := by decide +kernel
theorem dX2_goOn_48 : decode cX2_goOn 48 = .ok (.invokestatic 81, 3) := by decide +kernel
theorem dX2_goOn_51 : decode cX2_goOn 51 = .ok (.imul, 1) := by decide +kernel
theorem dX2_goOn_52 : decode cX2_goOn 52 = .ok (.invokevirtual 85, 3) := by decide +kernel
theorem dX2_goOn_55 : decode cX2_goOn 55 = .ok (.goto 8, 3) := by decide +kernel
theorem dX2_goOn_58 : decode cX2_goOn 58 = .ok (.aload_n 0, 1) := by decide +kernel
theorem dX2_goOn_59 : decode cX2_goOn 59 = .ok (.iconst 2, 1) := by decide +kernel
theorem dX2_goOn_60 : decode cX2_goOn 60 = .ok (.putfield 25, 3) := by decide +kernel
theorem dX2_goOn_63 : decode cX2_goOn 63 = .ok (.return_, 1) := by decide +kernel
theorem dX2_timesWon_0 : decode cX2_timesWon 0 = .ok (.aload_n 0, 1) := by decide +kernel
theorem dX2_timesWon_1 : decode cX2_timesWon 1 = .ok (.iload_n 1, 1) := by decide +kernel
theorem dX2_timesWon_2 : decode cX2_timesWon 2 = .ok (.iconst 0, 1) := by decide +kernel
theorem dX2_timesWon_3 : decode cX2_timesWon 3 = .ok (.invokevirtual 88, 3) := by decide +kernel
theorem dX2_timesWon_6 : decode cX2_timesWon 6 = .ok (.ifCond .le 5, 3) := by decide +kernel
theorem dX2_timesWon_9 : decode cX2_timesWon 9 = .ok (.iconst 1, 1) := by decide +kernel
theorem dX2_timesWon_10 : decode cX2_timesWon 10 = .ok (.ireturn, 1) := by decide +kernel
theorem dX2_timesWon_11 : decode cX2_timesWon 11 = .ok (.aload_n 0, 1) := by decide +kernel
theorem dX2_timesWon_12 : decode cX2_timesWon 12 = .ok (.iload_n 1, 1) := by decide +kernel
theorem dX2_timesWon_13 : decode cX2_timesWon 13 = .ok (.invokevirtual 91, 3) := by decide +kernel
theorem dX2_timesWon_16 : decode cX2_timesWon 16 = .ok (.bipush 18, 2) := by decide +kernel
theorem dX2_timesWon_18 : decode cX2_timesWon 18 = .ok (.if_icmp .le 7, 3) := by decide +kernel
theorem dX2_timesWon_21 : decode cX2_timesWon 21 = .ok (.iconst 3, 1) := by decide +kernel
theorem dX2_timesWon_22 : decode cX2_timesWon 22 = .ok (.goto 4, 3) := by decide +kernel
theorem dX2_timesWon_25 : decode cX2_timesWon 25 = .ok (.iconst 2, 1) := by decide +kernel
theorem dX2_timesWon_26 : decode cX2_timesWon 26 = .ok (.ireturn, 1) := by decide +kernel
theorem dX2_mayDouble_0 : decode cX2_mayDouble 0 = .ok (.aload_n 0, 1) := by decide +kernel
theorem dX2_mayDouble_1 : decode cX2_mayDouble 1 = .ok (.getfield 25, 3) := by decide +kernel
theorem dX2_mayDouble_4 : decode cX2_mayDouble 4 = .ok (.iconst 2, 1) := by decide +kernel
theorem dX2_mayDouble_5 : decode cX2_mayDouble 5 = .ok (.if_icmp .ne 39, 3) := by decide +kernel
theorem dX2_mayDouble_8 : decode cX2_mayDouble 8 = .ok (.aload_n 0, 1) := by decide +kernel
theorem dX2_mayDouble_9 : decode cX2_mayDouble 9 = .ok (.getfield 15, 3) := by decide +kernel
theorem dX2_mayDouble_12 : decode cX2_mayDouble 12 = .ok (.iconst (-1), 1) := by decide +kernel
theorem dX2_mayDouble_13 : decode cX2_mayDouble 13 = .ok (.if_icmp .eq 11, 3) := by decide +kernel
theorem dX2_mayDouble_16 : decode cX2_mayDouble 16 = .ok (.aload_n 0, 1) := by decide +kernel
theorem dX2_mayDouble_17 : decode cX2_mayDouble 17 = .ok (.getfield 15, 3) := by decide +kernel
theorem dX2_mayDouble_20 : decode cX2_mayDouble 20 = .ok (.iload_n 1, 1) := by decide +kernel
theorem dX2_mayDouble_21 : decode cX2_mayDouble 21 = .ok (.if_icmp .ne 23, 3) := by decide +kernel
theorem dX2_mayDouble_24 : decode cX2_mayDouble 24 = .ok (.aload_n 0, 1) := by decide +kernel
theorem dX2_mayDouble_25 : decode cX2_mayDouble 25 = .ok (.getfield 22, 3) := by decide +kernel
theorem dX2_mayDouble_28 : decode cX2_mayDouble 28 = .ok (.bipush 64, 2) := by decide +kernel
theorem dX2_mayDouble_30 : decode cX2_mayDouble 30 = .ok (.if_icmp .ge 14, 3) := by decide +kernel
theorem dX2_mayDouble_33 : decode cX2_mayDouble 33 = .ok (.aload_n 0, 1) := by decide +kernel
theorem dX2_mayDouble_34 : decode cX2_mayDouble 34 = .ok (.getfield 47, 3) := by decide +kernel
theorem dX2_mayDouble_37 : decode cX2_mayDouble 37 = .ok (.ifCond .ne 7, 3) := by decide +kernel
theorem dX2_mayDouble_40 : decode cX2_mayDouble 40 = .ok (.iconst 1, 1) := by decide +kernel
theorem dX2_mayDouble_41 : decode cX2_mayDouble 41 = .ok (.goto 4, 3) := by decide +kernel
theorem dX2_mayDouble_44 : decode cX2_mayDouble 44 = .ok (.iconst 0, 1) := by decide +kernel
theorem dX2_mayDouble_45 : decode cX2_mayDouble 45 = .ok (.ireturn, 1) := by decide +kernel
theorem dX2_takeDouble_0 : decode cX2_takeDouble 0 = .ok (.aload_n 0, 1) := by decide +kernel
theorem dX2_takeDouble_1 : decode cX2_takeDouble 1 = .ok (.iconst 2, 1) := by decide +kernel
theorem dX2_takeDouble_2 : decode cX2_takeDouble 2 = .ok (.aload_n 0, 1) := by decide +kernel
theorem dX2_takeDouble_3 : decode cX2_takeDouble 3 = .ok (.getfield 22, 3) := by decide +kernel
theorem dX2_takeDouble_6 : decode cX2_takeDouble 6 = .ok (.imul, 1) := by decide +kernel
theorem dX2_takeDouble_7 : decode cX2_takeDouble 7 = .ok (.putfield 22, 3) := by decide +kernel
theorem dX2_takeDouble_10 : decode cX2_takeDouble 10 = .ok (.aload_n 0, 1) := by decide +kernel
theorem dX2_takeDouble_11 : decode cX2_takeDouble 11 = .ok (.iconst 1, 1) := by decide +kernel
theorem dX2_takeDouble_12 : decode cX2_takeDouble 12 = .ok (.iload_n 1, 1) := by decide +kernel
theorem dX2_takeDouble_13 : decode cX2_takeDouble 13 = .ok (.isub, 1) := by decide +kernel
theorem dX2_takeDouble_14 : decode cX2_takeDouble 14 = .ok (.putfield 15, 3) := by decide +kernel
theorem dX2_takeDouble_17 : decode cX2_takeDouble 17 = .ok (.aload_n 0, 1) := by decide +kernel
theorem dX2_takeDouble_18 : decode cX2_takeDouble 18 = .ok (.iconst 2, 1) := by decide +kernel
theorem dX2_takeDouble_19 : decode cX2_takeDouble 19 = .ok (.putfield 25, 3) := by decide +kernel
theorem dX2_takeDouble_22 : decode cX2_takeDouble 22 = .ok (.return_, 1) := by decide +kernel
theorem dX2_end_0 : decode cX2_end 0 = .ok (.aload_n 0, 1) := by decide +kernel
theorem dX2_end_1 : decode cX2_end 1 = .ok (.getfield 9, 3) := by decide +kernel
theorem dX2_end_4 : decode cX2_end 4 = .ok (.iload_n 1, 1) := by decide +kernel
theorem dX2_end_5 : decode cX2_end 5 = .ok (.dup2, 1) := by decide +kernel
theorem dX2_end_6 : decode cX2_end 6 = .ok (.iaload, 1) := by decide +kernel
theorem dX2_end_7 : decode cX2_end 7 = .ok (.iload_n 2, 1) := by decide +kernel
theorem dX2_end_8 : decode cX2_end 8 = .ok (.iadd, 1) := by decide +kernel
theorem dX2_end_9 : decode cX2_end 9 = .ok (.iastore, 1) := by decide +kernel
theorem dX2_end_10 : decode cX2_end 10 = .ok (.aload_n 0, 1) := by decide +kernel
theorem dX2_end_11 : decode cX2_end 11 = .ok (.iload_n 2, 1) := by decide +kernel
theorem dX2_end_12 : decode cX2_end 12 = .ok (.putfield 37, 3) := by decide +kernel
theorem dX2_end_15 : decode cX2_end 15 = .ok (.aload_n 0, 1) := by decide +kernel
theorem dX2_end_16 : decode cX2_end 16 = .ok (.iload_n 1, 1) := by decide +kernel
theorem dX2_end_17 : decode cX2_end 17 = .ok (.putfield 19, 3) := by decide +kernel
theorem dX2_end_20 : decode cX2_end 20 = .ok (.aload_n 0, 1) := by decide +kernel
theorem dX2_end_21 : decode cX2_end 21 = .ok (.aload_n 0, 1) := by decide +kernel
theorem dX2_end_22 : decode cX2_end 22 = .ok (.getfield 28, 3) := by decide +kernel
theorem dX2_end_25 : decode cX2_end 25 = .ok (.ifCond .le 21, 3) := by decide +kernel
theorem dX2_end_28 : decode cX2_end 28 = .ok (.aload_n 0, 1) := by decide +kernel
theorem dX2_end_29 : decode cX2_end 29 = .ok (.getfield 9, 3) := by decide +kernel
theorem dX2_end_32 : decode cX2_end 32 = .ok (.iload_n 1, 1) := by decide +kernel
theorem dX2_end_33 : decode cX2_end 33 = .ok (.iaload, 1) := by decide +kernel
theorem dX2_end_34 : decode cX2_end 34 = .ok (.aload_n 0, 1) := by decide +kernel
theorem dX2_end_35 : decode cX2_end 35 = .ok (.getfield 28, 3) := by decide +kernel
theorem dX2_end_38 : decode cX2_end 38 = .ok (.if_icmp .lt 8, 3) := by decide +kernel
theorem dX2_end_41 : decode cX2_end 41 = .ok (.bipush 6, 2) := by decide +kernel
theorem dX2_end_43 : decode cX2_end 43 = .ok (.goto 4, 3) := by decide +kernel
theorem dX2_end_46 : decode cX2_end 46 = .ok (.iconst 5, 1) := by decide +kernel
theorem dX2_end_47 : decode cX2_end 47 = .ok (.putfield 25, 3) := by decide +kernel
theorem dX2_end_50 : decode cX2_end 50 = .ok (.aload_n 0, 1) := by decide +kernel
theorem dX2_end_51 : decode cX2_end 51 = .ok (.getfield 28, 3) := by decide +kernel
theorem dX2_end_54 : decode cX2_end 54 = .ok (.iconst 2, 1) := by decide +kernel
theorem dX2_end_55 : decode cX2_end 55 = .ok (.if_icmp .lt 35, 3) := by decide +kernel
theorem dX2_end_58 : decode cX2_end 58 = .ok (.aload_n 0, 1) := by decide +kernel
theorem dX2_end_59 : decode cX2_end 59 = .ok (.getfield 9, 3) := by decide +kernel
theorem dX2_end_62 : decode cX2_end 62 = .ok (.iload_n 1, 1) := by decide +kernel
theorem dX2_end_63 : decode cX2_end 63 = .ok (.iaload, 1) := by decide +kernel
theorem dX2_end_64 : decode cX2_end 64 = .ok (.aload_n 0, 1) := by decide +kernel
theorem dX2_end_65 : decode cX2_end 65 = .ok (.getfield 28, 3) := by decide +kernel
theorem dX2_end_68 : decode cX2_end 68 = .ok (.iconst 1, 1) := by decide +kernel
theorem dX2_end_69 : decode cX2_end 69 = .ok (.isub, 1) := by decide +kernel
theorem dX2_end_70 : decode cX2_end 70 = .ok (.if_icmp .ne 20, 3) := by decide +kernel
theorem dX2_end_73 : decode cX2_end 73 = .ok (.aload_n 0, 1) := by decide +kernel
theorem dX2_end_74 : decode cX2_end 74 = .ok (.getfield 44, 3) := by decide +kernel
theorem dX2_end_77 : decode cX2_end 77 = .ok (.ifCond .ne 13, 3) := by decide +kernel
theorem dX2_end_80 : decode cX2_end 80 = .ok (.aload_n 0, 1) := by decide +kernel
theorem dX2_end_81 : decode cX2_end 81 = .ok (.iconst 1, 1) := by decide +kernel
theorem dX2_end_82 : decode cX2_end 82 = .ok (.putfield 40, 3) := by decide +kernel
theorem dX2_end_85 : decode cX2_end 85 = .ok (.aload_n 0, 1) := by decide +kernel
theorem dX2_end_86 : decode cX2_end 86 = .ok (.iconst 1, 1) := by decide +kernel
theorem dX2_end_87 : decode cX2_end 87 = .ok (.putfield 44, 3) := by decide +kernel
theorem dX2_end_90 : decode cX2_end 90 = .ok (.return_, 1) := by decide +kernel
theorem dX2_tell_0 : decode cX2_tell 0 = .ok (.iload_n 1, 1) := by decide +kernel
theorem dX2_tell_1 : decode cX2_tell 1 = .ok (.tableswitch 126 0 10 #[59, 64, 71, 78, 83, 88, 101, 106, 111, 116, 121], 59) := by decide +kernel
theorem dX2_tell_60 : decode cX2_tell 60 = .ok (.aload_n 0, 1) := by decide +kernel
theorem dX2_tell_61 : decode cX2_tell 61 = .ok (.getfield 25, 3) := by decide +kernel
theorem dX2_tell_64 : decode cX2_tell 64 = .ok (.ireturn, 1) := by decide +kernel
theorem dX2_tell_65 : decode cX2_tell 65 = .ok (.aload_n 0, 1) := by decide +kernel
theorem dX2_tell_66 : decode cX2_tell 66 = .ok (.getfield 9, 3) := by decide +kernel
theorem dX2_tell_69 : decode cX2_tell 69 = .ok (.iconst 0, 1) := by decide +kernel
theorem dX2_tell_70 : decode cX2_tell 70 = .ok (.iaload, 1) := by decide +kernel
theorem dX2_tell_71 : decode cX2_tell 71 = .ok (.ireturn, 1) := by decide +kernel
theorem dX2_tell_72 : decode cX2_tell 72 = .ok (.aload_n 0, 1) := by decide +kernel
theorem dX2_tell_73 : decode cX2_tell 73 = .ok (.getfield 9, 3) := by decide +kernel
theorem dX2_tell_76 : decode cX2_tell 76 = .ok (.iconst 1, 1) := by decide +kernel
theorem dX2_tell_77 : decode cX2_tell 77 = .ok (.iaload, 1) := by decide +kernel
theorem dX2_tell_78 : decode cX2_tell 78 = .ok (.ireturn, 1) := by decide +kernel
theorem dX2_tell_79 : decode cX2_tell 79 = .ok (.aload_n 0, 1) := by decide +kernel
theorem dX2_tell_80 : decode cX2_tell 80 = .ok (.getfield 22, 3) := by decide +kernel
theorem dX2_tell_83 : decode cX2_tell 83 = .ok (.ireturn, 1) := by decide +kernel
theorem dX2_tell_84 : decode cX2_tell 84 = .ok (.aload_n 0, 1) := by decide +kernel
theorem dX2_tell_85 : decode cX2_tell 85 = .ok (.getfield 15, 3) := by decide +kernel
theorem dX2_tell_88 : decode cX2_tell 88 = .ok (.ireturn, 1) := by decide +kernel
theorem dX2_tell_89 : decode cX2_tell 89 = .ok (.aload_n 0, 1) := by decide +kernel
theorem dX2_tell_90 : decode cX2_tell 90 = .ok (.getfield 47, 3) := by decide +kernel
theorem dX2_tell_93 : decode cX2_tell 93 = .ok (.ifCond .eq 7, 3) := by decide +kernel
theorem dX2_tell_96 : decode cX2_tell 96 = .ok (.iconst 1, 1) := by decide +kernel
theorem dX2_tell_97 : decode cX2_tell 97 = .ok (.goto 4, 3) := by decide +kernel
theorem dX2_tell_100 : decode cX2_tell 100 = .ok (.iconst 0, 1) := by decide +kernel
theorem dX2_tell_101 : decode cX2_tell 101 = .ok (.ireturn, 1) := by decide +kernel
theorem dX2_tell_102 : decode cX2_tell 102 = .ok (.aload_n 0, 1) := by decide +kernel
theorem dX2_tell_103 : decode cX2_tell 103 = .ok (.getfield 31, 3) := by decide +kernel
theorem dX2_tell_106 : decode cX2_tell 106 = .ok (.ireturn, 1) := by decide +kernel
theorem dX2_tell_107 : decode cX2_tell 107 = .ok (.aload_n 0, 1) := by decide +kernel
theorem dX2_tell_108 : decode cX2_tell 108 = .ok (.getfield 34, 3) := by decide +kernel
theorem dX2_tell_111 : decode cX2_tell 111 = .ok (.ireturn, 1) := by decide +kernel
theorem dX2_tell_112 : decode cX2_tell 112 = .ok (.aload_n 0, 1) := by decide +kernel
theorem dX2_tell_113 : decode cX2_tell 113 = .ok (.getfield 37, 3) := by decide +kernel
theorem dX2_tell_116 : decode cX2_tell 116 = .ok (.ireturn, 1) := by decide +kernel
theorem dX2_tell_117 : decode cX2_tell 117 = .ok (.aload_n 0, 1) := by decide +kernel
theorem dX2_tell_118 : decode cX2_tell 118 = .ok (.getfield 19, 3) := by decide +kernel
theorem dX2_tell_121 : decode cX2_tell 121 = .ok (.ireturn, 1) := by decide +kernel
theorem dX2_tell_122 : decode cX2_tell 122 = .ok (.aload_n 0, 1) := by decide +kernel
theorem dX2_tell_123 : decode cX2_tell 123 = .ok (.getfield 60, 3) := by decide +kernel
theorem dX2_tell_126 : decode cX2_tell 126 = .ok (.ireturn, 1) := by decide +kernel
theorem dX2_tell_127 : decode cX2_tell 127 = .ok (.aload_n 0, 1) := by decide +kernel
theorem dX2_tell_128 : decode cX2_tell 128 = .ok (.getfield 66, 3) := by decide +kernel
theorem dX2_tell_131 : decode cX2_tell 131 = .ok (.ireturn, 1) := by decide +kernel
theorem dX3_init_0 : decode cX3_init 0 = .ok (.aload_n 0, 1) := by decide +kernel
theorem dX3_init_1 : decode cX3_init 1 = .ok (.invokespecial 1, 3) := by decide +kernel
theorem dX3_init_4 : decode cX3_init 4 = .ok (.aload_n 0, 1) := by decide +kernel
theorem dX3_init_5 : decode cX3_init 5 = .ok (.bipush 8, 2) := by decide +kernel
theorem dX3_init_7 : decode cX3_init 7 = .ok (.anewarray 9, 3) := by decide +kernel
theorem dX3_init_10 : decode cX3_init 10 = .ok (.putfield 11, 3) := by decide +kernel
theorem dX3_init_13 : decode cX3_init 13 = .ok (.return_, 1) := by decide +kernel
theorem dX3_keep_0 : decode cX3_keep 0 = .ok (.aload_n 0, 1) := by decide +kernel
theorem dX3_keep_1 : decode cX3_keep 1 = .ok (.aload_n 0, 1) := by decide +kernel
theorem dX3_keep_2 : decode cX3_keep 2 = .ok (.getfield 15, 3) := by decide +kernel
theorem dX3_keep_5 : decode cX3_keep 5 = .ok (.iconst 1, 1) := by decide +kernel
theorem dX3_keep_6 : decode cX3_keep 6 = .ok (.iadd, 1) := by decide +kernel
theorem dX3_keep_7 : decode cX3_keep 7 = .ok (.bipush 8, 2) := by decide +kernel
theorem dX3_keep_9 : decode cX3_keep 9 = .ok (.irem, 1) := by decide +kernel
theorem dX3_keep_10 : decode cX3_keep 10 = .ok (.putfield 15, 3) := by decide +kernel
theorem dX3_keep_13 : decode cX3_keep 13 = .ok (.aload_n 0, 1) := by decide +kernel
theorem dX3_keep_14 : decode cX3_keep 14 = .ok (.getfield 11, 3) := by decide +kernel
theorem dX3_keep_17 : decode cX3_keep 17 = .ok (.aload_n 0, 1) := by decide +kernel
theorem dX3_keep_18 : decode cX3_keep 18 = .ok (.getfield 15, 3) := by decide +kernel
theorem dX3_keep_21 : decode cX3_keep 21 = .ok (.aaload, 1) := by decide +kernel
theorem dX3_keep_22 : decode cX3_keep 22 = .ok (.ifnonnull 19, 3) := by decide +kernel
theorem dX3_keep_25 : decode cX3_keep 25 = .ok (.aload_n 0, 1) := by decide +kernel
theorem dX3_keep_26 : decode cX3_keep 26 = .ok (.getfield 11, 3) := by decide +kernel
theorem dX3_keep_29 : decode cX3_keep 29 = .ok (.aload_n 0, 1) := by decide +kernel
theorem dX3_keep_30 : decode cX3_keep 30 = .ok (.getfield 15, 3) := by decide +kernel
theorem dX3_keep_33 : decode cX3_keep 33 = .ok (.new 9, 3) := by decide +kernel
theorem dX3_keep_36 : decode cX3_keep 36 = .ok (.dup, 1) := by decide +kernel
theorem dX3_keep_37 : decode cX3_keep 37 = .ok (.invokespecial 19, 3) := by decide +kernel
theorem dX3_keep_40 : decode cX3_keep 40 = .ok (.aastore, 1) := by decide +kernel
theorem dX3_keep_41 : decode cX3_keep 41 = .ok (.aload_n 0, 1) := by decide +kernel
theorem dX3_keep_42 : decode cX3_keep 42 = .ok (.getfield 11, 3) := by decide +kernel
theorem dX3_keep_45 : decode cX3_keep 45 = .ok (.aload_n 0, 1) := by decide +kernel
theorem dX3_keep_46 : decode cX3_keep 46 = .ok (.getfield 15, 3) := by decide +kernel
theorem dX3_keep_49 : decode cX3_keep 49 = .ok (.aaload, 1) := by decide +kernel
theorem dX3_keep_50 : decode cX3_keep 50 = .ok (.aload_n 1, 1) := by decide +kernel
theorem dX3_keep_51 : decode cX3_keep 51 = .ok (.invokevirtual 20, 3) := by decide +kernel
theorem dX3_keep_54 : decode cX3_keep 54 = .ok (.aload_n 0, 1) := by decide +kernel
theorem dX3_keep_55 : decode cX3_keep 55 = .ok (.aload_n 0, 1) := by decide +kernel
theorem dX3_keep_56 : decode cX3_keep 56 = .ok (.getfield 24, 3) := by decide +kernel
theorem dX3_keep_59 : decode cX3_keep 59 = .ok (.iconst 1, 1) := by decide +kernel
theorem dX3_keep_60 : decode cX3_keep 60 = .ok (.iadd, 1) := by decide +kernel
theorem dX3_keep_61 : decode cX3_keep 61 = .ok (.bipush 8, 2) := by decide +kernel
theorem dX3_keep_63 : decode cX3_keep 63 = .ok (.invokestatic 27, 3) := by decide +kernel
theorem dX3_keep_66 : decode cX3_keep 66 = .ok (.putfield 24, 3) := by decide +kernel
theorem dX3_keep_69 : decode cX3_keep 69 = .ok (.return_, 1) := by decide +kernel
theorem dX3_giveBack_0 : decode cX3_giveBack 0 = .ok (.aload_n 0, 1) := by decide +kernel
theorem dX3_giveBack_1 : decode cX3_giveBack 1 = .ok (.getfield 24, 3) := by decide +kernel
theorem dX3_giveBack_4 : decode cX3_giveBack 4 = .ok (.ifCond .eq 15, 3) := by decide +kernel
theorem dX3_giveBack_7 : decode cX3_giveBack 7 = .ok (.aload_n 0, 1) := by decide +kernel
theorem dX3_giveBack_8 : decode cX3_giveBack 8 = .ok (.getfield 11, 3) := by decide +kernel
theorem dX3_giveBack_11 : decode cX3_giveBack 11 = .ok (.aload_n 0, 1) := by decide +kernel
theorem dX3_giveBack_12 : decode cX3_giveBack 12 = .ok (.getfield 15, 3) := by decide +kernel
theorem dX3_giveBack_15 : decode cX3_giveBack 15 = .ok (.aaload, 1) := by decide +kernel
theorem dX3_giveBack_16 : decode cX3_giveBack 16 = .ok (.ifnonnull 5, 3) := by decide +kernel
theorem dX3_giveBack_19 : decode cX3_giveBack 19 = .ok (.iconst 0, 1) := by decide +kernel
theorem dX3_giveBack_20 : decode cX3_giveBack 20 = .ok (.ireturn, 1) := by decide +kernel
theorem dX3_giveBack_21 : decode cX3_giveBack 21 = .ok (.aload_n 1, 1) := by decide +kernel
theorem dX3_giveBack_22 : decode cX3_giveBack 22 = .ok (.aload_n 0, 1) := by decide +kernel
theorem dX3_giveBack_23 : decode cX3_giveBack 23 = .ok (.getfield 11, 3) := by decide +kernel
theorem dX3_giveBack_26 : decode cX3_giveBack 26 = .ok (.aload_n 0, 1) := by decide +kernel
theorem dX3_giveBack_27 : decode cX3_giveBack 27 = .ok (.getfield 15, 3) := by decide +kernel
theorem dX3_giveBack_30 : decode cX3_giveBack 30 = .ok (.aaload, 1) := by decide +kernel
theorem dX3_giveBack_31 : decode cX3_giveBack 31 = .ok (.invokevirtual 20, 3) := by decide +kernel
theorem dX3_giveBack_34 : decode cX3_giveBack 34 = .ok (.aload_n 0, 1) := by decide +kernel
theorem dX3_giveBack_35 : decode cX3_giveBack 35 = .ok (.aload_n 0, 1) := by decide +kernel
theorem dX3_giveBack_36 : decode cX3_giveBack 36 = .ok (.getfield 15, 3) := by decide +kernel
theorem dX3_giveBack_39 : decode cX3_giveBack 39 = .ok (.bipush 8, 2) := by decide +kernel
theorem dX3_giveBack_41 : decode cX3_giveBack 41 = .ok (.iadd, 1) := by decide +kernel
theorem dX3_giveBack_42 : decode cX3_giveBack 42 = .ok (.iconst 1, 1) := by decide +kernel
theorem dX3_giveBack_43 : decode cX3_giveBack 43 = .ok (.isub, 1) := by decide +kernel
theorem dX3_giveBack_44 : decode cX3_giveBack 44 = .ok (.bipush 8, 2) := by decide +kernel
theorem dX3_giveBack_46 : decode cX3_giveBack 46 = .ok (.irem, 1) := by decide +kernel
theorem dX3_giveBack_47 : decode cX3_giveBack 47 = .ok (.putfield 15, 3) := by decide +kernel
theorem dX3_giveBack_50 : decode cX3_giveBack 50 = .ok (.aload_n 0, 1) := by decide +kernel
theorem dX3_giveBack_51 : decode cX3_giveBack 51 = .ok (.dup, 1) := by decide +kernel
theorem dX3_giveBack_52 : decode cX3_giveBack 52 = .ok (.getfield 24, 3) := by decide +kernel
theorem dX3_giveBack_55 : decode cX3_giveBack 55 = .ok (.iconst 1, 1) := by decide +kernel
theorem dX3_giveBack_56 : decode cX3_giveBack 56 = .ok (.isub, 1) := by decide +kernel
theorem dX3_giveBack_57 : decode cX3_giveBack 57 = .ok (.putfield 24, 3) := by decide +kernel
theorem dX3_giveBack_60 : decode cX3_giveBack 60 = .ok (.iconst 1, 1) := by decide +kernel
theorem dX3_giveBack_61 : decode cX3_giveBack 61 = .ok (.ireturn, 1) := by decide +kernel
theorem dX3_forget_0 : decode cX3_forget 0 = .ok (.aload_n 0, 1) := by decide +kernel
theorem dX3_forget_1 : decode cX3_forget 1 = .ok (.iconst 0, 1) := by decide +kernel
theorem dX3_forget_2 : decode cX3_forget 2 = .ok (.putfield 24, 3) := by decide +kernel
theorem dX3_forget_5 : decode cX3_forget 5 = .ok (.return_, 1) := by decide +kernel
theorem dX4_init_0 : decode cX4_init 0 = .ok (.aload_n 0, 1) := by decide +kernel
theorem dX4_init_1 : decode cX4_init 1 = .ok (.invokespecial 1, 3) := by decide +kernel
theorem dX4_init_4 : decode cX4_init 4 = .ok (.aload_n 0, 1) := by decide +kernel
theorem dX4_init_5 : decode cX4_init 5 = .ok (.new 7, 3) := by decide +kernel
theorem dX4_init_8 : decode cX4_init 8 = .ok (.dup, 1) := by decide +kernel
theorem dX4_init_9 : decode cX4_init 9 = .ok (.invokespecial 9, 3) := by decide +kernel
theorem dX4_init_12 : decode cX4_init 12 = .ok (.putfield 10, 3) := by decide +kernel
theorem dX4_init_15 : decode cX4_init 15 = .ok (.aload_n 0, 1) := by decide +kernel
theorem dX4_init_16 : decode cX4_init 16 = .ok (.bipush 60, 2) := by decide +kernel
theorem dX4_init_18 : decode cX4_init 18 = .ok (.newarray .int, 2) := by decide +kernel
theorem dX4_init_20 : decode cX4_init 20 = .ok (.putfield 16, 3) := by decide +kernel
theorem dX4_init_23 : decode cX4_init 23 = .ok (.aload_n 0, 1) := by decide +kernel
theorem dX4_init_24 : decode cX4_init 24 = .ok (.new 7, 3) := by decide +kernel
theorem dX4_init_27 : decode cX4_init 27 = .ok (.dup, 1) := by decide +kernel
theorem dX4_init_28 : decode cX4_init 28 = .ok (.invokespecial 9, 3) := by decide +kernel
theorem dX4_init_31 : decode cX4_init 31 = .ok (.putfield 20, 3) := by decide +kernel
theorem dX4_init_34 : decode cX4_init 34 = .ok (.aload_n 0, 1) := by decide +kernel
theorem dX4_init_35 : decode cX4_init 35 = .ok (.aload_n 1, 1) := by decide +kernel
theorem dX4_init_36 : decode cX4_init 36 = .ok (.putfield 23, 3) := by decide +kernel
theorem dX4_init_39 : decode cX4_init 39 = .ok (.return_, 1) := by decide +kernel
theorem dX4_print_0 : decode cX4_print 0 = .ok (.aload_n 0, 1) := by decide +kernel
theorem dX4_print_1 : decode cX4_print 1 = .ok (.getfield 23, 3) := by decide +kernel
theorem dX4_print_4 : decode cX4_print 4 = .ok (.iconst 0, 1) := by decide +kernel
theorem dX4_print_5 : decode cX4_print 5 = .ok (.putfield 27, 3) := by decide +kernel
theorem dX4_print_8 : decode cX4_print 8 = .ok (.aload_n 0, 1) := by decide +kernel
theorem dX4_print_9 : decode cX4_print 9 = .ok (.getfield 10, 3) := by decide +kernel
theorem dX4_print_12 : decode cX4_print 12 = .ok (.lconst 1, 1) := by decide +kernel
theorem dX4_print_13 : decode cX4_print 13 = .ok (.invokevirtual 33, 3) := by decide +kernel
theorem dX4_print_16 : decode cX4_print 16 = .ok (.aload_n 0, 1) := by decide +kernel
theorem dX4_print_17 : decode cX4_print 17 = .ok (.getfield 20, 3) := by decide +kernel
theorem dX4_print_20 : decode cX4_print 20 = .ok (.invokevirtual 37, 3) := by decide +kernel
theorem dX4_print_23 : decode cX4_print 23 = .ok (.ifCond .ne 19, 3) := by decide +kernel
theorem dX4_print_26 : decode cX4_print 26 = .ok (.aload_n 0, 1) := by decide +kernel
theorem dX4_print_27 : decode cX4_print 27 = .ok (.iconst 2, 1) := by decide +kernel
theorem dX4_print_28 : decode cX4_print 28 = .ok (.iconst 2, 1) := by decide +kernel
theorem dX4_print_29 : decode cX4_print 29 = .ok (.iload_n 1, 1) := by decide +kernel
theorem dX4_print_30 : decode cX4_print 30 = .ok (.imul, 1) := by decide +kernel
theorem dX4_print_31 : decode cX4_print 31 = .ok (.invokevirtual 41, 3) := by decide +kernel
theorem dX4_print_34 : decode cX4_print 34 = .ok (.aload_n 0, 1) := by decide +kernel
theorem dX4_print_35 : decode cX4_print 35 = .ok (.iconst 3, 1) := by decide +kernel
theorem dX4_print_36 : decode cX4_print 36 = .ok (.iconst 2, 1) := by decide +kernel
theorem dX4_print_37 : decode cX4_print 37 = .ok (.iload_n 1, 1) := by decide +kernel
theorem dX4_print_38 : decode cX4_print 38 = .ok (.imul, 1) := by decide +kernel
theorem dX4_print_39 : decode cX4_print 39 = .ok (.invokevirtual 41, 3) := by decide +kernel
theorem dX4_print_42 : decode cX4_print 42 = .ok (.aload_n 0, 1) := by decide +kernel
theorem dX4_print_43 : decode cX4_print 43 = .ok (.getfield 10, 3) := by decide +kernel
theorem dX4_print_46 : decode cX4_print 46 = .ok (.invokevirtual 45, 3) := by decide +kernel
theorem dX4_print_49 : decode cX4_print 49 = .ok (.istore_n 2, 1) := by decide +kernel
theorem dX4_print_50 : decode cX4_print 50 = .ok (.aload_n 0, 1) := by decide +kernel
theorem dX4_print_51 : decode cX4_print 51 = .ok (.aload_n 0, 1) := by decide +kernel
theorem dX4_print_52 : decode cX4_print 52 = .ok (.getfield 20, 3) := by decide +kernel
theorem dX4_print_55 : decode cX4_print 55 = .ok (.invokevirtual 48, 3) := by decide +kernel
theorem dX4_print_58 : decode cX4_print 58 = .ok (.iload_n 2, 1) := by decide +kernel
theorem dX4_print_59 : decode cX4_print 59 = .ok (.ifCond .ne 20, 3) := by decide +kernel
theorem dX4_print_62 : decode cX4_print 62 = .ok (.aload_n 0, 1) := by decide +kernel
theorem dX4_print_63 : decode cX4_print 63 = .ok (.getfield 23, 3) := by decide +kernel
theorem dX4_print_66 : decode cX4_print 66 = .ok (.bipush 47, 2) := by decide +kernel
theorem dX4_print_68 : decode cX4_print 68 = .ok (.invokevirtual 52, 3) := by decide +kernel
theorem dX4_print_71 : decode cX4_print 71 = .ok (.aload_n 0, 1) := by decide +kernel
theorem dX4_print_72 : decode cX4_print 72 = .ok (.aload_n 0, 1) := by decide +kernel
theorem dX4_print_73 : decode cX4_print 73 = .ok (.getfield 10, 3) := by decide +kernel
theorem dX4_print_76 : decode cX4_print 76 = .ok (.invokevirtual 48, 3) := by decide +kernel
theorem dX4_print_79 : decode cX4_print 79 = .ok (.return_, 1) := by decide +kernel
theorem dX4_reduce_0 : decode cX4_reduce 0 = .ok (.iload_n 2, 1) := by decide +kernel
theorem dX4_reduce_1 : decode cX4_reduce 1 = .ok (.istore_n 3, 1) := by decide +kernel
theorem dX4_reduce_2 : decode cX4_reduce 2 = .ok (.iload_n 3, 1) := by decide +kernel
theorem dX4_reduce_3 : decode cX4_reduce 3 = .ok (.ifCond .le 28, 3) := by decide +kernel
theorem dX4_reduce_6 : decode cX4_reduce 6 = .ok (.aload_n 0, 1) := by decide +kernel
theorem dX4_reduce_7 : decode cX4_reduce 7 = .ok (.getfield 20, 3) := by decide +kernel
theorem dX4_reduce_10 : decode cX4_reduce 10 = .ok (.iload_n 1, 1) := by decide +kernel
theorem dX4_reduce_11 : decode cX4_reduce 11 = .ok (.invokevirtual 56, 3) := by decide +kernel
theorem dX4_reduce_14 : decode cX4_reduce 14 = .ok (.ifCond .ne 17, 3) := by decide +kernel
theorem dX4_reduce_17 : decode cX4_reduce 17 = .ok (.aload_n 0, 1) := by decide +kernel
theorem dX4_reduce_18 : decode cX4_reduce 18 = .ok (.getfield 20, 3) := by decide +kernel
theorem dX4_reduce_21 : decode cX4_reduce 21 = .ok (.iload_n 1, 1) := by decide +kernel
theorem dX4_reduce_22 : decode cX4_reduce 22 = .ok (.invokevirtual 60, 3) := by decide +kernel
theorem dX4_reduce_25 : decode cX4_reduce 25 = .ok (.iinc 3 (-1), 3) := by decide +kernel
theorem dX4_reduce_28 : decode cX4_reduce 28 = .ok (.goto (-26), 3) := by decide +kernel
theorem dX4_reduce_31 : decode cX4_reduce 31 = .ok (.iconst 0, 1) := by decide +kernel
theorem dX4_reduce_32 : decode cX4_reduce 32 = .ok (.istore 4, 2) := by decide +kernel
theorem dX4_reduce_34 : decode cX4_reduce 34 = .ok (.iload 4, 2) := by decide +kernel
theorem dX4_reduce_36 : decode cX4_reduce 36 = .ok (.iload_n 3, 1) := by decide +kernel
theorem dX4_reduce_37 : decode cX4_reduce 37 = .ok (.if_icmp .ge 17, 3) := by decide +kernel
theorem dX4_reduce_40 : decode cX4_reduce 40 = .ok (.aload_n 0, 1) := by decide +kernel
theorem dX4_reduce_41 : decode cX4_reduce 41 = .ok (.getfield 10, 3) := by decide +kernel
theorem dX4_reduce_44 : decode cX4_reduce 44 = .ok (.iload_n 1, 1) := by decide +kernel
theorem dX4_reduce_45 : decode cX4_reduce 45 = .ok (.invokevirtual 63, 3) := by decide +kernel
theorem dX4_reduce_48 : decode cX4_reduce 48 = .ok (.iinc 4 1, 3) := by decide +kernel
theorem dX4_reduce_51 : decode cX4_reduce 51 = .ok (.goto (-17), 3) := by decide +kernel
theorem dX4_reduce_54 : decode cX4_reduce 54 = .ok (.return_, 1) := by decide +kernel
theorem dX4_printWhole_0 : decode cX4_printWhole 0 = .ok (.iconst 0, 1) := by decide +kernel
theorem dX4_printWhole_1 : decode cX4_printWhole 1 = .ok (.istore_n 2, 1) := by decide +kernel
theorem dX4_printWhole_2 : decode cX4_printWhole 2 = .ok (.aload_n 0, 1) := by decide +kernel
theorem dX4_printWhole_3 : decode cX4_printWhole 3 = .ok (.getfield 16, 3) := by decide +kernel
theorem dX4_printWhole_6 : decode cX4_printWhole 6 = .ok (.iload_n 2, 1) := by decide +kernel
theorem dX4_printWhole_7 : decode cX4_printWhole 7 = .ok (.aload_n 1, 1) := by decide +kernel
theorem dX4_printWhole_8 : decode cX4_printWhole 8 = .ok (.bipush 10, 2) := by decide +kernel
theorem dX4_printWhole_10 : decode cX4_printWhole 10 = .ok (.invokevirtual 56, 3) := by decide +kernel
theorem dX4_printWhole_13 : decode cX4_printWhole 13 = .ok (.iastore, 1) := by decide +kernel
theorem dX4_printWhole_14 : decode cX4_printWhole 14 = .ok (.aload_n 1, 1) := by decide +kernel
theorem dX4_printWhole_15 : decode cX4_printWhole 15 = .ok (.bipush 10, 2) := by decide +kernel
theorem dX4_printWhole_17 : decode cX4_printWhole 17 = .ok (.invokevirtual 60, 3) := by decide +kernel
theorem dX4_printWhole_20 : decode cX4_printWhole 20 = .ok (.iinc 2 1, 3) := by decide +kernel
theorem dX4_printWhole_23 : decode cX4_printWhole 23 = .ok (.iload_n 2, 1) := by decide +kernel
theorem dX4_printWhole_24 : decode cX4_printWhole 24 = .ok (.bipush 60, 2) := by decide +kernel
theorem dX4_printWhole_26 : decode cX4_printWhole 26 = .ok (.if_icmp .ge 10, 3) := by decide +kernel
theorem dX4_printWhole_29 : decode cX4_printWhole 29 = .ok (.aload_n 1, 1) := by decide +kernel
theorem dX4_printWhole_30 : decode cX4_printWhole 30 = .ok (.invokevirtual 37, 3) := by decide +kernel
theorem dX4_printWhole_33 : decode cX4_printWhole 33 = .ok (.ifCond .eq (-31), 3) := by decide +kernel
theorem dX4_printWhole_36 : decode cX4_printWhole 36 = .ok (.iload_n 2, 1) := by decide +kernel
theorem dX4_printWhole_37 : decode cX4_printWhole 37 = .ok (.iconst 1, 1) := by decide +kernel
theorem dX4_printWhole_38 : decode cX4_printWhole 38 = .ok (.isub, 1) := by decide +kernel
theorem dX4_printWhole_39 : decode cX4_printWhole 39 = .ok (.istore_n 3, 1) := by decide +kernel
theorem dX4_printWhole_40 : decode cX4_printWhole 40 = .ok (.iload_n 3, 1) := by decide +kernel
theorem dX4_printWhole_41 : decode cX4_printWhole 41 = .ok (.ifCond .lt 25, 3) := by decide +kernel
theorem dX4_printWhole_44 : decode cX4_printWhole 44 = .ok (.aload_n 0, 1) := by decide +kernel
theorem dX4_printWhole_45 : decode cX4_printWhole 45 = .ok (.getfield 23, 3) := by decide +kernel
theorem dX4_printWhole_48 : decode cX4_printWhole 48 = .ok (.bipush 48, 2) := by decide +kernel
theorem dX4_printWhole_50 : decode cX4_printWhole 50 = .ok (.aload_n 0, 1) := by decide +kernel
theorem dX4_printWhole_51 : decode cX4_printWhole 51 = .ok (.getfield 16, 3) := by decide +kernel
theorem dX4_printWhole_54 : decode cX4_printWhole 54 = .ok (.iload_n 3, 1) := by decide +kernel
theorem dX4_printWhole_55 : decode cX4_printWhole 55 = .ok (.iaload, 1) := by decide +kernel
theorem dX4_printWhole_56 : decode cX4_printWhole 56 = .ok (.iadd, 1) := by decide +kernel
theorem dX4_printWhole_57 : decode cX4_printWhole 57 = .ok (.invokevirtual 52, 3) := by decide +kernel
theorem dX4_printWhole_60 : decode cX4_printWhole 60 = .ok (.iinc 3 (-1), 3) := by decide +kernel
theorem dX4_printWhole_63 : decode cX4_printWhole 63 = .ok (.goto (-23), 3) := by decide +kernel
theorem dX4_printWhole_66 : decode cX4_printWhole 66 = .ok (.return_, 1) := by decide +kernel
theorem dX5_init_0 : decode cX5_init 0 = .ok (.aload_n 0, 1) := by decide +kernel
theorem dX5_init_1 : decode cX5_init 1 = .ok (.invokespecial 3, 3) := by decide +kernel
theorem dX5_init_4 : decode cX5_init 4 = .ok (.aload_n 0, 1) := by decide +kernel
theorem dX5_init_5 : decode cX5_init 5 = .ok (.iconst (-1), 1) := by decide +kernel
theorem dX5_init_6 : decode cX5_init 6 = .ok (.putfield 9, 3) := by decide +kernel
theorem dX5_init_9 : decode cX5_init 9 = .ok (.aload_n 0, 1) := by decide +kernel
theorem dX5_init_10 : decode cX5_init 10 = .ok (.aload_n 1, 1) := by decide +kernel
theorem dX5_init_11 : decode cX5_init 11 = .ok (.putfield 15, 3) := by decide +kernel
theorem dX5_init_14 : decode cX5_init 14 = .ok (.return_, 1) := by decide +kernel
theorem dX5_open_0 : decode cX5_open 0 = .ok (.aload_n 0, 1) := by decide +kernel
theorem dX5_open_1 : decode cX5_open 1 = .ok (.iload_n 1, 1) := by decide +kernel
theorem dX5_open_2 : decode cX5_open 2 = .ok (.putfield 19, 3) := by decide +kernel
theorem dX5_open_5 : decode cX5_open 5 = .ok (.aload_n 0, 1) := by decide +kernel
theorem dX5_open_6 : decode cX5_open 6 = .ok (.iconst 0, 1) := by decide +kernel
theorem dX5_open_7 : decode cX5_open 7 = .ok (.putfield 22, 3) := by decide +kernel
theorem dX5_open_10 : decode cX5_open 10 = .ok (.aload_n 0, 1) := by decide +kernel
theorem dX5_open_11 : decode cX5_open 11 = .ok (.iconst 0, 1) := by decide +kernel
theorem dX5_open_12 : decode cX5_open 12 = .ok (.putfield 25, 3) := by decide +kernel
theorem dX5_open_15 : decode cX5_open 15 = .ok (.aload_n 0, 1) := by decide +kernel
theorem dX5_open_16 : decode cX5_open 16 = .ok (.iconst (-1), 1) := by decide +kernel
theorem dX5_open_17 : decode cX5_open 17 = .ok (.putfield 9, 3) := by decide +kernel
theorem dX5_open_20 : decode cX5_open 20 = .ok (.aload_n 0, 1) := by decide +kernel
theorem dX5_open_21 : decode cX5_open 21 = .ok (.invokevirtual 28, 3) := by decide +kernel
theorem dX5_open_24 : decode cX5_open 24 = .ok (.return_, 1) := by decide +kernel
theorem dX5_read_0 : decode cX5_read 0 = .ok (.aload_n 0, 1) := by decide +kernel
theorem dX5_read_1 : decode cX5_read 1 = .ok (.getfield 22, 3) := by decide +kernel
theorem dX5_read_4 : decode cX5_read 4 = .ok (.aload_n 0, 1) := by decide +kernel
theorem dX5_read_5 : decode cX5_read 5 = .ok (.getfield 19, 3) := by decide +kernel
theorem dX5_read_8 : decode cX5_read 8 = .ok (.if_icmp .ge 33, 3) := by decide +kernel
theorem dX5_read_11 : decode cX5_read 11 = .ok (.aload_n 0, 1) := by decide +kernel
theorem dX5_read_12 : decode cX5_read 12 = .ok (.getfield 15, 3) := by decide +kernel
theorem dX5_read_15 : decode cX5_read 15 = .ok (.aload_n 0, 1) := by decide +kernel
theorem dX5_read_16 : decode cX5_read 16 = .ok (.getfield 22, 3) := by decide +kernel
theorem dX5_read_19 : decode cX5_read 19 = .ok (.invokevirtual 31, 3) := by decide +kernel
theorem dX5_read_22 : decode cX5_read 22 = .ok (.invokestatic 36, 3) := by decide +kernel
theorem dX5_read_25 : decode cX5_read 25 = .ok (.ifCond .eq 16, 3) := by decide +kernel
theorem dX5_read_28 : decode cX5_read 28 = .ok (.aload_n 0, 1) := by decide +kernel
theorem dX5_read_29 : decode cX5_read 29 = .ok (.dup, 1) := by decide +kernel
theorem dX5_read_30 : decode cX5_read 30 = .ok (.getfield 22, 3) := by decide +kernel
theorem dX5_read_33 : decode cX5_read 33 = .ok (.iconst 1, 1) := by decide +kernel
theorem dX5_read_34 : decode cX5_read 34 = .ok (.iadd, 1) := by decide +kernel
theorem dX5_read_35 : decode cX5_read 35 = .ok (.putfield 22, 3) := by decide +kernel
theorem dX5_read_38 : decode cX5_read 38 = .ok (.goto (-38), 3) := by decide +kernel
theorem dX5_read_41 : decode cX5_read 41 = .ok (.aload_n 0, 1) := by decide +kernel
theorem dX5_read_42 : decode cX5_read 42 = .ok (.aload_n 0, 1) := by decide +kernel
theorem dX5_read_43 : decode cX5_read 43 = .ok (.getfield 22, 3) := by decide +kernel
theorem dX5_read_46 : decode cX5_read 46 = .ok (.putfield 40, 3) := by decide +kernel
theorem dX5_read_49 : decode cX5_read 49 = .ok (.aload_n 0, 1) := by decide +kernel
theorem dX5_read_50 : decode cX5_read 50 = .ok (.iconst 0, 1) := by decide +kernel
theorem dX5_read_51 : decode cX5_read 51 = .ok (.putfield 43, 3) := by decide +kernel
theorem dX5_read_54 : decode cX5_read 54 = .ok (.aload_n 0, 1) := by decide +kernel
theorem dX5_read_55 : decode cX5_read 55 = .ok (.iconst 0, 1) := by decide +kernel
theorem dX5_read_56 : decode cX5_read 56 = .ok (.putfield 46, 3) := by decide +kernel
theorem dX5_read_59 : decode cX5_read 59 = .ok (.aload_n 0, 1) := by decide +kernel
theorem dX5_read_60 : decode cX5_read 60 = .ok (.getfield 22, 3) := by decide +kernel
theorem dX5_read_63 : decode cX5_read 63 = .ok (.aload_n 0, 1) := by decide +kernel
theorem dX5_read_64 : decode cX5_read 64 = .ok (.getfield 19, 3) := by decide +kernel
theorem dX5_read_67 : decode cX5_read 67 = .ok (.if_icmp .lt 11, 3) := by decide +kernel
theorem dX5_read_70 : decode cX5_read 70 = .ok (.aload_n 0, 1) := by decide +kernel
theorem dX5_read_71 : decode cX5_read 71 = .ok (.iconst 0, 1) := by decide +kernel
theorem dX5_read_72 : decode cX5_read 72 = .ok (.putfield 49, 3) := by decide +kernel
theorem dX5_read_75 : decode cX5_read 75 = .ok (.goto 55, 3) := by decide +kernel
theorem dX5_read_78 : decode cX5_read 78 = .ok (.aload_n 0, 1) := by decide +kernel
theorem dX5_read_79 : decode cX5_read 79 = .ok (.getfield 15, 3) := by decide +kernel
theorem dX5_read_82 : decode cX5_read 82 = .ok (.aload_n 0, 1) := by decide +kernel
theorem dX5_read_83 : decode cX5_read 83 = .ok (.getfield 22, 3) := by decide +kernel
theorem dX5_read_86 : decode cX5_read 86 = .ok (.invokevirtual 31, 3) := by decide +kernel
theorem dX5_read_89 : decode cX5_read 89 = .ok (.invokestatic 52, 3) := by decide +kernel
theorem dX5_read_92 : decode cX5_read 92 = .ok (.ifCond .eq 10, 3) := by decide +kernel
theorem dX5_read_95 : decode cX5_read 95 = .ok (.aload_n 0, 1) := by decide +kernel
theorem dX5_read_96 : decode cX5_read 96 = .ok (.invokevirtual 55, 3) := by decide +kernel
theorem dX5_read_99 : decode cX5_read 99 = .ok (.goto 31, 3) := by decide +kernel
theorem dX5_read_102 : decode cX5_read 102 = .ok (.aload_n 0, 1) := by decide +kernel
theorem dX5_read_103 : decode cX5_read 103 = .ok (.getfield 15, 3) := by decide +kernel
theorem dX5_read_106 : decode cX5_read 106 = .ok (.aload_n 0, 1) := by decide +kernel
theorem dX5_read_107 : decode cX5_read 107 = .ok (.getfield 22, 3) := by decide +kernel
theorem dX5_read_110 : decode cX5_read 110 = .ok (.invokevirtual 31, 3) := by decide +kernel
theorem dX5_read_113 : decode cX5_read 113 = .ok (.invokestatic 58, 3) := by decide +kernel
theorem dX5_read_116 : decode cX5_read 116 = .ok (.ifCond .eq 10, 3) := by decide +kernel
theorem dX5_read_119 : decode cX5_read 119 = .ok (.aload_n 0, 1) := by decide +kernel
theorem dX5_read_120 : decode cX5_read 120 = .ok (.invokevirtual 61, 3) := by decide +kernel
theorem dX5_read_123 : decode cX5_read 123 = .ok (.goto 7, 3) := by decide +kernel
theorem dX5_read_126 : decode cX5_read 126 = .ok (.aload_n 0, 1) := by decide +kernel
theorem dX5_read_127 : decode cX5_read 127 = .ok (.invokevirtual 64, 3) := by decide +kernel
theorem dX5_read_130 : decode cX5_read 130 = .ok (.return_, 1) := by decide +kernel
theorem dX5_readNumber_0 : decode cX5_readNumber 0 = .ok (.aload_n 0, 1) := by decide +kernel
theorem dX5_readNumber_1 : decode cX5_readNumber 1 = .ok (.iconst 1, 1) := by decide +kernel
theorem dX5_readNumber_2 : decode cX5_readNumber 2 = .ok (.putfield 49, 3) := by decide +kernel
theorem dX5_readNumber_5 : decode cX5_readNumber 5 = .ok (.aload_n 0, 1) := by decide +kernel
theorem dX5_readNumber_6 : decode cX5_readNumber 6 = .ok (.getfield 22, 3) := by decide +kernel
theorem dX5_readNumber_9 : decode cX5_readNumber 9 = .ok (.aload_n 0, 1) := by decide +kernel
theorem dX5_readNumber_10 : decode cX5_readNumber 10 = .ok (.getfield 19, 3) := by decide +kernel
theorem dX5_readNumber_13 : decode cX5_readNumber 13 = .ok (.if_icmp .ge 84, 3) := by decide +kernel
theorem dX5_readNumber_16 : decode cX5_readNumber 16 = .ok (.aload_n 0, 1) := by decide +kernel
theorem dX5_readNumber_17 : decode cX5_readNumber 17 = .ok (.getfield 15, 3) := by decide +kernel
theorem dX5_readNumber_20 : decode cX5_readNumber 20 = .ok (.aload_n 0, 1) := by decide +kernel
theorem dX5_readNumber_21 : decode cX5_readNumber 21 = .ok (.getfield 22, 3) := by decide +kernel
theorem dX5_readNumber_24 : decode cX5_readNumber 24 = .ok (.invokevirtual 31, 3) := by decide +kernel
theorem dX5_readNumber_27 : decode cX5_readNumber 27 = .ok (.invokestatic 52, 3) := by decide +kernel
theorem dX5_readNumber_30 : decode cX5_readNumber 30 = .ok (.ifCond .eq 67, 3) := by decide +kernel
theorem dX5_readNumber_33 : decode cX5_readNumber 33 = .ok (.aload_n 0, 1) := by decide +kernel
theorem dX5_readNumber_34 : decode cX5_readNumber 34 = .ok (.dup, 1) := by decide +kernel
theorem dX5_readNumber_35 : decode cX5_readNumber 35 = .ok (.getfield 43, 3) := by decide +kernel
theorem dX5_readNumber_38 : decode cX5_readNumber 38 = .ok (.iconst 1, 1) := by decide +kernel
theorem dX5_readNumber_39 : decode cX5_readNumber 39 = .ok (.iadd, 1) := by decide +kernel
theorem dX5_readNumber_40 : decode cX5_readNumber 40 = .ok (.putfield 43, 3) := by decide +kernel
theorem dX5_readNumber_43 : decode cX5_readNumber 43 = .ok (.aload_n 0, 1) := by decide +kernel
theorem dX5_readNumber_44 : decode cX5_readNumber 44 = .ok (.aload_n 0, 1) := by decide +kernel
theorem dX5_readNumber_45 : decode cX5_readNumber 45 = .ok (.getfield 43, 3) := by decide +kernel
theorem dX5_readNumber_48 : decode cX5_readNumber 48 = .ok (.iconst 2, 1) := by decide +kernel
theorem dX5_readNumber_49 : decode cX5_readNumber 49 = .ok (.if_icmp .gt 28, 3) := by decide +kernel
theorem dX5_readNumber_52 : decode cX5_readNumber 52 = .ok (.bipush 10, 2) := by decide +kernel
theorem dX5_readNumber_54 : decode cX5_readNumber 54 = .ok (.aload_n 0, 1) := by decide +kernel
theorem dX5_readNumber_55 : decode cX5_readNumber 55 = .ok (.getfield 46, 3) := by decide +kernel
theorem dX5_readNumber_58 : decode cX5_readNumber 58 = .ok (.imul, 1) := by decide +kernel
theorem dX5_readNumber_59 : decode cX5_readNumber 59 = .ok (.aload_n 0, 1) := by decide +kernel
theorem dX5_readNumber_60 : decode cX5_readNumber 60 = .ok (.getfield 15, 3) := by decide +kernel
theorem dX5_readNumber_63 : decode cX5_readNumber 63 = .ok (.aload_n 0, 1) := by decide +kernel
theorem dX5_readNumber_64 : decode cX5_readNumber 64 = .ok (.getfield 22, 3) := by decide +kernel
theorem dX5_readNumber_67 : decode cX5_readNumber 67 = .ok (.invokevirtual 31, 3) := by decide +kernel
theorem dX5_readNumber_70 : decode cX5_readNumber 70 = .ok (.iadd, 1) := by decide +kernel
theorem dX5_readNumber_71 : decode cX5_readNumber 71 = .ok (.bipush 48, 2) := by decide +kernel
theorem dX5_readNumber_73 : decode cX5_readNumber 73 = .ok (.isub, 1) := by decide +kernel
theorem dX5_readNumber_74 : decode cX5_readNumber 74 = .ok (.goto 7, 3) := by decide +kernel
theorem dX5_readNumber_77 : decode cX5_readNumber 77 = .ok (.aload_n 0, 1) := by decide +kernel
theorem dX5_readNumber_78 : decode cX5_readNumber 78 = .ok (.getfield 46, 3) := by decide +kernel
theorem dX5_readNumber_81 : decode cX5_readNumber 81 = .ok (.putfield 46, 3) := by decide +kernel
theorem dX5_readNumber_84 : decode cX5_readNumber 84 = .ok (.aload_n 0, 1) := by decide +kernel
theorem dX5_readNumber_85 : decode cX5_readNumber 85 = .ok (.dup, 1) := by decide +kernel
theorem dX5_readNumber_86 : decode cX5_readNumber 86 = .ok (.getfield 22, 3) := by decide +kernel
theorem dX5_readNumber_89 : decode cX5_readNumber 89 = .ok (.iconst 1, 1) := by decide +kernel
theorem dX5_readNumber_90 : decode cX5_readNumber 90 = .ok (.iadd, 1) := by decide +kernel
theorem dX5_readNumber_91 : decode cX5_readNumber 91 = .ok (.putfield 22, 3) := by decide +kernel
theorem dX5_readNumber_94 : decode cX5_readNumber 94 = .ok (.goto (-89), 3) := by decide +kernel
theorem dX5_readNumber_97 : decode cX5_readNumber 97 = .ok (.return_, 1) := by decide +kernel
theorem dX5_readWord_0 : decode cX5_readWord 0 = .ok (.aload_n 0, 1) := by decide +kernel
theorem dX5_readWord_1 : decode cX5_readWord 1 = .ok (.iconst 2, 1) := by decide +kernel
theorem dX5_readWord_2 : decode cX5_readWord 2 = .ok (.putfield 49, 3) := by decide +kernel
theorem dX5_readWord_5 : decode cX5_readWord 5 = .ok (.aload_n 0, 1) := by decide +kernel
theorem dX5_readWord_6 : decode cX5_readWord 6 = .ok (.getfield 22, 3) := by decide +kernel
theorem dX5_readWord_9 : decode cX5_readWord 9 = .ok (.aload_n 0, 1) := by decide +kernel
theorem dX5_readWord_10 : decode cX5_readWord 10 = .ok (.getfield 19, 3) := by decide +kernel
theorem dX5_readWord_13 : decode cX5_readWord 13 = .ok (.if_icmp .ge 43, 3) := by decide +kernel
theorem dX5_readWord_16 : decode cX5_readWord 16 = .ok (.aload_n 0, 1) := by decide +kernel
theorem dX5_readWord_17 : decode cX5_readWord 17 = .ok (.getfield 15, 3) := by decide +kernel
theorem dX5_readWord_20 : decode cX5_readWord 20 = .ok (.aload_n 0, 1) := by decide +kernel
theorem dX5_readWord_21 : decode cX5_readWord 21 = .ok (.getfield 22, 3) := by decide +kernel
theorem dX5_readWord_24 : decode cX5_readWord 24 = .ok (.invokevirtual 31, 3) := by decide +kernel
theorem dX5_readWord_27 : decode cX5_readWord 27 = .ok (.invokestatic 58, 3) := by decide +kernel
theorem dX5_readWord_30 : decode cX5_readWord 30 = .ok (.ifCond .eq 26, 3) := by decide +kernel
theorem dX5_readWord_33 : decode cX5_readWord 33 = .ok (.aload_n 0, 1) := by decide +kernel
theorem dX5_readWord_34 : decode cX5_readWord 34 = .ok (.dup, 1) := by decide +kernel
theorem dX5_readWord_35 : decode cX5_readWord 35 = .ok (.getfield 43, 3) := by decide +kernel
theorem dX5_readWord_38 : decode cX5_readWord 38 = .ok (.iconst 1, 1) := by decide +kernel
theorem dX5_readWord_39 : decode cX5_readWord 39 = .ok (.iadd, 1) := by decide +kernel
theorem dX5_readWord_40 : decode cX5_readWord 40 = .ok (.putfield 43, 3) := by decide +kernel
theorem dX5_readWord_43 : decode cX5_readWord 43 = .ok (.aload_n 0, 1) := by decide +kernel
theorem dX5_readWord_44 : decode cX5_readWord 44 = .ok (.dup, 1) := by decide +kernel
theorem dX5_readWord_45 : decode cX5_readWord 45 = .ok (.getfield 22, 3) := by decide +kernel
theorem dX5_readWord_48 : decode cX5_readWord 48 = .ok (.iconst 1, 1) := by decide +kernel
theorem dX5_readWord_49 : decode cX5_readWord 49 = .ok (.iadd, 1) := by decide +kernel
