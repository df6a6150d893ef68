theorem dX7_markDeed_9 : decode cX7_markDeed 9 = .ok (.putfield 20, 3) := by decide +kernel
theorem dX7_markDeed_12 : decode cX7_markDeed 12 = .ok (.return_, 1) := by decide +kernel
theorem dX7_isOver_0 : decode cX7_isOver 0 = .ok (.aload_n 0, 1) := by decide +kernel
theorem dX7_isOver_1 : decode cX7_isOver 1 = .ok (.invokevirtual 84, 3) := by decide +kernel
theorem dX7_isOver_4 : decode cX7_isOver 4 = .ok (.iconst (-1), 1) := by decide +kernel
theorem dX7_isOver_5 : decode cX7_isOver 5 = .ok (.if_icmp .eq 7, 3) := by decide +kernel
theorem dX7_isOver_8 : decode cX7_isOver 8 = .ok (.iconst 1, 1) := by decide +kernel
theorem dX7_isOver_9 : decode cX7_isOver 9 = .ok (.goto 4, 3) := by decide +kernel
theorem dX7_isOver_12 : decode cX7_isOver 12 = .ok (.iconst 0, 1) := by decide +kernel
theorem dX7_isOver_13 : decode cX7_isOver 13 = .ok (.ireturn, 1) := by decide +kernel
theorem dX7_winner_0 : decode cX7_winner 0 = .ok (.aload_n 0, 1) := by decide +kernel
theorem dX7_winner_1 : decode cX7_winner 1 = .ok (.getfield 30, 3) := by decide +kernel
theorem dX7_winner_4 : decode cX7_winner 4 = .ok (.getfield 38, 3) := by decide +kernel
theorem dX7_winner_7 : decode cX7_winner 7 = .ok (.ifCond .ne 5, 3) := by decide +kernel
theorem dX7_winner_10 : decode cX7_winner 10 = .ok (.iconst (-1), 1) := by decide +kernel
theorem dX7_winner_11 : decode cX7_winner 11 = .ok (.ireturn, 1) := by decide +kernel
theorem dX7_winner_12 : decode cX7_winner 12 = .ok (.aload_n 0, 1) := by decide +kernel
theorem dX7_winner_13 : decode cX7_winner 13 = .ok (.getfield 30, 3) := by decide +kernel
theorem dX7_winner_16 : decode cX7_winner 16 = .ok (.getfield 88, 3) := by decide +kernel
theorem dX7_winner_19 : decode cX7_winner 19 = .ok (.iconst 0, 1) := by decide +kernel
theorem dX7_winner_20 : decode cX7_winner 20 = .ok (.iaload, 1) := by decide +kernel
theorem dX7_winner_21 : decode cX7_winner 21 = .ok (.aload_n 0, 1) := by decide +kernel
theorem dX7_winner_22 : decode cX7_winner 22 = .ok (.getfield 27, 3) := by decide +kernel
theorem dX7_winner_25 : decode cX7_winner 25 = .ok (.iconst (-1), 1) := by decide +kernel
theorem dX7_winner_26 : decode cX7_winner 26 = .ok (.ixor, 1) := by decide +kernel
theorem dX7_winner_27 : decode cX7_winner 27 = .ok (.iand, 1) := by decide +kernel
theorem dX7_winner_28 : decode cX7_winner 28 = .ok (.ifCond .ne 7, 3) := by decide +kernel
theorem dX7_winner_31 : decode cX7_winner 31 = .ok (.iconst 1, 1) := by decide +kernel
theorem dX7_winner_32 : decode cX7_winner 32 = .ok (.goto 4, 3) := by decide +kernel
theorem dX7_winner_35 : decode cX7_winner 35 = .ok (.iconst 0, 1) := by decide +kernel
theorem dX7_winner_36 : decode cX7_winner 36 = .ok (.istore_n 1, 1) := by decide +kernel
theorem dX7_winner_37 : decode cX7_winner 37 = .ok (.aload_n 0, 1) := by decide +kernel
theorem dX7_winner_38 : decode cX7_winner 38 = .ok (.getfield 30, 3) := by decide +kernel
theorem dX7_winner_41 : decode cX7_winner 41 = .ok (.getfield 88, 3) := by decide +kernel
theorem dX7_winner_44 : decode cX7_winner 44 = .ok (.iconst 1, 1) := by decide +kernel
theorem dX7_winner_45 : decode cX7_winner 45 = .ok (.iaload, 1) := by decide +kernel
theorem dX7_winner_46 : decode cX7_winner 46 = .ok (.aload_n 0, 1) := by decide +kernel
theorem dX7_winner_47 : decode cX7_winner 47 = .ok (.getfield 27, 3) := by decide +kernel
theorem dX7_winner_50 : decode cX7_winner 50 = .ok (.iconst (-1), 1) := by decide +kernel
theorem dX7_winner_51 : decode cX7_winner 51 = .ok (.ixor, 1) := by decide +kernel
theorem dX7_winner_52 : decode cX7_winner 52 = .ok (.iand, 1) := by decide +kernel
theorem dX7_winner_53 : decode cX7_winner 53 = .ok (.ifCond .ne 7, 3) := by decide +kernel
theorem dX7_winner_56 : decode cX7_winner 56 = .ok (.iconst 1, 1) := by decide +kernel
theorem dX7_winner_57 : decode cX7_winner 57 = .ok (.goto 4, 3) := by decide +kernel
theorem dX7_winner_60 : decode cX7_winner 60 = .ok (.iconst 0, 1) := by decide +kernel
theorem dX7_winner_61 : decode cX7_winner 61 = .ok (.istore_n 2, 1) := by decide +kernel
theorem dX7_winner_62 : decode cX7_winner 62 = .ok (.iload_n 1, 1) := by decide +kernel
theorem dX7_winner_63 : decode cX7_winner 63 = .ok (.ifCond .eq 13, 3) := by decide +kernel
theorem dX7_winner_66 : decode cX7_winner 66 = .ok (.iload_n 2, 1) := by decide +kernel
theorem dX7_winner_67 : decode cX7_winner 67 = .ok (.ifCond .eq 7, 3) := by decide +kernel
theorem dX7_winner_70 : decode cX7_winner 70 = .ok (.iconst 2, 1) := by decide +kernel
theorem dX7_winner_71 : decode cX7_winner 71 = .ok (.goto 4, 3) := by decide +kernel
theorem dX7_winner_74 : decode cX7_winner 74 = .ok (.iconst 1, 1) := by decide +kernel
theorem dX7_winner_75 : decode cX7_winner 75 = .ok (.ireturn, 1) := by decide +kernel
theorem dX7_winner_76 : decode cX7_winner 76 = .ok (.iload_n 2, 1) := by decide +kernel
theorem dX7_winner_77 : decode cX7_winner 77 = .ok (.ifCond .eq 7, 3) := by decide +kernel
theorem dX7_winner_80 : decode cX7_winner 80 = .ok (.iconst 0, 1) := by decide +kernel
theorem dX7_winner_81 : decode cX7_winner 81 = .ok (.goto 4, 3) := by decide +kernel
theorem dX7_winner_84 : decode cX7_winner 84 = .ok (.iconst (-1), 1) := by decide +kernel
theorem dX7_winner_85 : decode cX7_winner 85 = .ok (.ireturn, 1) := by decide +kernel
theorem dX7_mayAct_0 : decode cX7_mayAct 0 = .ok (.aload_n 0, 1) := by decide +kernel
theorem dX7_mayAct_1 : decode cX7_mayAct 1 = .ok (.getfield 30, 3) := by decide +kernel
theorem dX7_mayAct_4 : decode cX7_mayAct 4 = .ok (.iload_n 1, 1) := by decide +kernel
theorem dX7_mayAct_5 : decode cX7_mayAct 5 = .ok (.invokevirtual 91, 3) := by decide +kernel
theorem dX7_mayAct_8 : decode cX7_mayAct 8 = .ok (.ifCond .eq 30, 3) := by decide +kernel
theorem dX7_mayAct_11 : decode cX7_mayAct 11 = .ok (.aload_n 0, 1) := by decide +kernel
theorem dX7_mayAct_12 : decode cX7_mayAct 12 = .ok (.iload_n 1, 1) := by decide +kernel
theorem dX7_mayAct_13 : decode cX7_mayAct 13 = .ok (.invokevirtual 95, 3) := by decide +kernel
theorem dX7_mayAct_16 : decode cX7_mayAct 16 = .ok (.ifCond .ne 22, 3) := by decide +kernel
theorem dX7_mayAct_19 : decode cX7_mayAct 19 = .ok (.aload_n 0, 1) := by decide +kernel
theorem dX7_mayAct_20 : decode cX7_mayAct 20 = .ok (.iload_n 1, 1) := by decide +kernel
theorem dX7_mayAct_21 : decode cX7_mayAct 21 = .ok (.invokevirtual 98, 3) := by decide +kernel
theorem dX7_mayAct_24 : decode cX7_mayAct 24 = .ok (.ifCond .ne 14, 3) := by decide +kernel
theorem dX7_mayAct_27 : decode cX7_mayAct 27 = .ok (.aload_n 0, 1) := by decide +kernel
theorem dX7_mayAct_28 : decode cX7_mayAct 28 = .ok (.invokevirtual 101, 3) := by decide +kernel
theorem dX7_mayAct_31 : decode cX7_mayAct 31 = .ok (.ifCond .ne 7, 3) := by decide +kernel
theorem dX7_mayAct_34 : decode cX7_mayAct 34 = .ok (.iconst 1, 1) := by decide +kernel
theorem dX7_mayAct_35 : decode cX7_mayAct 35 = .ok (.goto 4, 3) := by decide +kernel
theorem dX7_mayAct_38 : decode cX7_mayAct 38 = .ok (.iconst 0, 1) := by decide +kernel
theorem dX7_mayAct_39 : decode cX7_mayAct 39 = .ok (.ireturn, 1) := by decide +kernel
theorem dX7_canGo_0 : decode cX7_canGo 0 = .ok (.aload_n 0, 1) := by decide +kernel
theorem dX7_canGo_1 : decode cX7_canGo 1 = .ok (.getfield 11, 3) := by decide +kernel
theorem dX7_canGo_4 : decode cX7_canGo 4 = .ok (.iload_n 1, 1) := by decide +kernel
theorem dX7_canGo_5 : decode cX7_canGo 5 = .ok (.iaload, 1) := by decide +kernel
theorem dX7_canGo_6 : decode cX7_canGo 6 = .ok (.ifCond .le 7, 3) := by decide +kernel
theorem dX7_canGo_9 : decode cX7_canGo 9 = .ok (.iconst 1, 1) := by decide +kernel
theorem dX7_canGo_10 : decode cX7_canGo 10 = .ok (.goto 4, 3) := by decide +kernel
theorem dX7_canGo_13 : decode cX7_canGo 13 = .ok (.iconst 0, 1) := by decide +kernel
theorem dX7_canGo_14 : decode cX7_canGo 14 = .ok (.ireturn, 1) := by decide +kernel
theorem dX7_hasRest_0 : decode cX7_hasRest 0 = .ok (.aload_n 0, 1) := by decide +kernel
theorem dX7_hasRest_1 : decode cX7_hasRest 1 = .ok (.getfield 17, 3) := by decide +kernel
theorem dX7_hasRest_4 : decode cX7_hasRest 4 = .ok (.iload_n 1, 1) := by decide +kernel
theorem dX7_hasRest_5 : decode cX7_hasRest 5 = .ok (.iaload, 1) := by decide +kernel
theorem dX7_hasRest_6 : decode cX7_hasRest 6 = .ok (.ifCond .le 7, 3) := by decide +kernel
theorem dX7_hasRest_9 : decode cX7_hasRest 9 = .ok (.iconst 1, 1) := by decide +kernel
theorem dX7_hasRest_10 : decode cX7_hasRest 10 = .ok (.goto 4, 3) := by decide +kernel
theorem dX7_hasRest_13 : decode cX7_hasRest 13 = .ok (.iconst 0, 1) := by decide +kernel
theorem dX7_hasRest_14 : decode cX7_hasRest 14 = .ok (.ireturn, 1) := by decide +kernel
theorem dX7_canPress_0 : decode cX7_canPress 0 = .ok (.aload_n 0, 1) := by decide +kernel
theorem dX7_canPress_1 : decode cX7_canPress 1 = .ok (.getfield 30, 3) := by decide +kernel
theorem dX7_canPress_4 : decode cX7_canPress 4 = .ok (.getfield 105, 3) := by decide +kernel
theorem dX7_canPress_7 : decode cX7_canPress 7 = .ok (.iconst 1, 1) := by decide +kernel
theorem dX7_canPress_8 : decode cX7_canPress 8 = .ok (.if_icmp .eq 24, 3) := by decide +kernel
theorem dX7_canPress_11 : decode cX7_canPress 11 = .ok (.aload_n 0, 1) := by decide +kernel
theorem dX7_canPress_12 : decode cX7_canPress 12 = .ok (.getfield 30, 3) := by decide +kernel
theorem dX7_canPress_15 : decode cX7_canPress 15 = .ok (.getfield 78, 3) := by decide +kernel
theorem dX7_canPress_18 : decode cX7_canPress 18 = .ok (.iload_n 1, 1) := by decide +kernel
theorem dX7_canPress_19 : decode cX7_canPress 19 = .ok (.iaload, 1) := by decide +kernel
theorem dX7_canPress_20 : decode cX7_canPress 20 = .ok (.aload_n 0, 1) := by decide +kernel
theorem dX7_canPress_21 : decode cX7_canPress 21 = .ok (.getfield 30, 3) := by decide +kernel
theorem dX7_canPress_24 : decode cX7_canPress 24 = .ok (.getfield 78, 3) := by decide +kernel
theorem dX7_canPress_27 : decode cX7_canPress 27 = .ok (.iload_n 2, 1) := by decide +kernel
theorem dX7_canPress_28 : decode cX7_canPress 28 = .ok (.iaload, 1) := by decide +kernel
theorem dX7_canPress_29 : decode cX7_canPress 29 = .ok (.if_icmp .eq 7, 3) := by decide +kernel
theorem dX7_canPress_32 : decode cX7_canPress 32 = .ok (.iconst 1, 1) := by decide +kernel
theorem dX7_canPress_33 : decode cX7_canPress 33 = .ok (.goto 4, 3) := by decide +kernel
theorem dX7_canPress_36 : decode cX7_canPress 36 = .ok (.iconst 0, 1) := by decide +kernel
theorem dX7_canPress_37 : decode cX7_canPress 37 = .ok (.istore_n 3, 1) := by decide +kernel
theorem dX7_canPress_38 : decode cX7_canPress 38 = .ok (.iload_n 1, 1) := by decide +kernel
theorem dX7_canPress_39 : decode cX7_canPress 39 = .ok (.iload_n 2, 1) := by decide +kernel
theorem dX7_canPress_40 : decode cX7_canPress 40 = .ok (.if_icmp .eq 35, 3) := by decide +kernel
theorem dX7_canPress_43 : decode cX7_canPress 43 = .ok (.iload_n 3, 1) := by decide +kernel
theorem dX7_canPress_44 : decode cX7_canPress 44 = .ok (.ifCond .eq 31, 3) := by decide +kernel
theorem dX7_canPress_47 : decode cX7_canPress 47 = .ok (.aload_n 0, 1) := by decide +kernel
theorem dX7_canPress_48 : decode cX7_canPress 48 = .ok (.iload_n 1, 1) := by decide +kernel
theorem dX7_canPress_49 : decode cX7_canPress 49 = .ok (.invokevirtual 108, 3) := by decide +kernel
theorem dX7_canPress_52 : decode cX7_canPress 52 = .ok (.ifCond .eq 23, 3) := by decide +kernel
theorem dX7_canPress_55 : decode cX7_canPress 55 = .ok (.aload_n 0, 1) := by decide +kernel
theorem dX7_canPress_56 : decode cX7_canPress 56 = .ok (.iload_n 2, 1) := by decide +kernel
theorem dX7_canPress_57 : decode cX7_canPress 57 = .ok (.invokevirtual 95, 3) := by decide +kernel
theorem dX7_canPress_60 : decode cX7_canPress 60 = .ok (.ifCond .ne 15, 3) := by decide +kernel
theorem dX7_canPress_63 : decode cX7_canPress 63 = .ok (.aload_n 0, 1) := by decide +kernel
theorem dX7_canPress_64 : decode cX7_canPress 64 = .ok (.iload_n 2, 1) := by decide +kernel
theorem dX7_canPress_65 : decode cX7_canPress 65 = .ok (.invokevirtual 111, 3) := by decide +kernel
theorem dX7_canPress_68 : decode cX7_canPress 68 = .ok (.ifCond .eq 7, 3) := by decide +kernel
theorem dX7_canPress_71 : decode cX7_canPress 71 = .ok (.iconst 1, 1) := by decide +kernel
theorem dX7_canPress_72 : decode cX7_canPress 72 = .ok (.goto 4, 3) := by decide +kernel
theorem dX7_canPress_75 : decode cX7_canPress 75 = .ok (.iconst 0, 1) := by decide +kernel
theorem dX7_canPress_76 : decode cX7_canPress 76 = .ok (.ireturn, 1) := by decide +kernel
theorem dX7_lowestToPress_0 : decode cX7_lowestToPress 0 = .ok (.iconst 0, 1) := by decide +kernel
theorem dX7_lowestToPress_1 : decode cX7_lowestToPress 1 = .ok (.istore_n 2, 1) := by decide +kernel
theorem dX7_lowestToPress_2 : decode cX7_lowestToPress 2 = .ok (.iload_n 2, 1) := by decide +kernel
theorem dX7_lowestToPress_3 : decode cX7_lowestToPress 3 = .ok (.aload_n 0, 1) := by decide +kernel
theorem dX7_lowestToPress_4 : decode cX7_lowestToPress 4 = .ok (.getfield 30, 3) := by decide +kernel
theorem dX7_lowestToPress_7 : decode cX7_lowestToPress 7 = .ok (.getfield 38, 3) := by decide +kernel
theorem dX7_lowestToPress_10 : decode cX7_lowestToPress 10 = .ok (.if_icmp .ge 20, 3) := by decide +kernel
theorem dX7_lowestToPress_13 : decode cX7_lowestToPress 13 = .ok (.aload_n 0, 1) := by decide +kernel
theorem dX7_lowestToPress_14 : decode cX7_lowestToPress 14 = .ok (.iload_n 1, 1) := by decide +kernel
theorem dX7_lowestToPress_15 : decode cX7_lowestToPress 15 = .ok (.iload_n 2, 1) := by decide +kernel
theorem dX7_lowestToPress_16 : decode cX7_lowestToPress 16 = .ok (.invokevirtual 114, 3) := by decide +kernel
theorem dX7_lowestToPress_19 : decode cX7_lowestToPress 19 = .ok (.ifCond .eq 5, 3) := by decide +kernel
theorem dX7_lowestToPress_22 : decode cX7_lowestToPress 22 = .ok (.iload_n 2, 1) := by decide +kernel
theorem dX7_lowestToPress_23 : decode cX7_lowestToPress 23 = .ok (.ireturn, 1) := by decide +kernel
theorem dX7_lowestToPress_24 : decode cX7_lowestToPress 24 = .ok (.iinc 2 1, 3) := by decide +kernel
theorem dX7_lowestToPress_27 : decode cX7_lowestToPress 27 = .ok (.goto (-25), 3) := by decide +kernel
theorem dX7_lowestToPress_30 : decode cX7_lowestToPress 30 = .ok (.iconst (-1), 1) := by decide +kernel
theorem dX7_lowestToPress_31 : decode cX7_lowestToPress 31 = .ok (.ireturn, 1) := by decide +kernel
theorem dX7_move_0 : decode cX7_move 0 = .ok (.aload_n 0, 1) := by decide +kernel
theorem dX7_move_1 : decode cX7_move 1 = .ok (.getfield 11, 3) := by decide +kernel
theorem dX7_move_4 : decode cX7_move 4 = .ok (.iload_n 1, 1) := by decide +kernel
theorem dX7_move_5 : decode cX7_move 5 = .ok (.iconst 0, 1) := by decide +kernel
theorem dX7_move_6 : decode cX7_move 6 = .ok (.aload_n 0, 1) := by decide +kernel
theorem dX7_move_7 : decode cX7_move 7 = .ok (.getfield 11, 3) := by decide +kernel
theorem dX7_move_10 : decode cX7_move 10 = .ok (.iload_n 1, 1) := by decide +kernel
theorem dX7_move_11 : decode cX7_move 11 = .ok (.iaload, 1) := by decide +kernel
theorem dX7_move_12 : decode cX7_move 12 = .ok (.iload_n 2, 1) := by decide +kernel
theorem dX7_move_13 : decode cX7_move 13 = .ok (.isub, 1) := by decide +kernel
theorem dX7_move_14 : decode cX7_move 14 = .ok (.invokestatic 117, 3) := by decide +kernel
theorem dX7_move_17 : decode cX7_move 17 = .ok (.iastore, 1) := by decide +kernel
theorem dX7_move_18 : decode cX7_move 18 = .ok (.aload_n 0, 1) := by decide +kernel
theorem dX7_move_19 : decode cX7_move 19 = .ok (.getfield 17, 3) := by decide +kernel
theorem dX7_move_22 : decode cX7_move 22 = .ok (.iload_n 1, 1) := by decide +kernel
theorem dX7_move_23 : decode cX7_move 23 = .ok (.aload_n 0, 1) := by decide +kernel
theorem dX7_move_24 : decode cX7_move 24 = .ok (.aload_n 0, 1) := by decide +kernel
theorem dX7_move_25 : decode cX7_move 25 = .ok (.getfield 11, 3) := by decide +kernel
theorem dX7_move_28 : decode cX7_move 28 = .ok (.iload_n 1, 1) := by decide +kernel
theorem dX7_move_29 : decode cX7_move 29 = .ok (.iaload, 1) := by decide +kernel
theorem dX7_move_30 : decode cX7_move 30 = .ok (.invokevirtual 44, 3) := by decide +kernel
theorem dX7_move_33 : decode cX7_move 33 = .ok (.iastore, 1) := by decide +kernel
theorem dX7_move_34 : decode cX7_move 34 = .ok (.aload_n 0, 1) := by decide +kernel
theorem dX7_move_35 : decode cX7_move 35 = .ok (.iload_n 1, 1) := by decide +kernel
theorem dX7_move_36 : decode cX7_move 36 = .ok (.invokevirtual 53, 3) := by decide +kernel
theorem dX7_move_39 : decode cX7_move 39 = .ok (.return_, 1) := by decide +kernel
theorem dX7_spendRest_0 : decode cX7_spendRest 0 = .ok (.aload_n 0, 1) := by decide +kernel
theorem dX7_spendRest_1 : decode cX7_spendRest 1 = .ok (.getfield 17, 3) := by decide +kernel
theorem dX7_spendRest_4 : decode cX7_spendRest 4 = .ok (.iload_n 1, 1) := by decide +kernel
theorem dX7_spendRest_5 : decode cX7_spendRest 5 = .ok (.dup2, 1) := by decide +kernel
theorem dX7_spendRest_6 : decode cX7_spendRest 6 = .ok (.iaload, 1) := by decide +kernel
theorem dX7_spendRest_7 : decode cX7_spendRest 7 = .ok (.iconst 1, 1) := by decide +kernel
theorem dX7_spendRest_8 : decode cX7_spendRest 8 = .ok (.isub, 1) := by decide +kernel
theorem dX7_spendRest_9 : decode cX7_spendRest 9 = .ok (.iastore, 1) := by decide +kernel
theorem dX7_spendRest_10 : decode cX7_spendRest 10 = .ok (.return_, 1) := by decide +kernel
theorem dX7_beginNextDay_0 : decode cX7_beginNextDay 0 = .ok (.aload_n 0, 1) := by decide +kernel
theorem dX7_beginNextDay_1 : decode cX7_beginNextDay 1 = .ok (.dup, 1) := by decide +kernel
theorem dX7_beginNextDay_2 : decode cX7_beginNextDay 2 = .ok (.getfield 24, 3) := by decide +kernel
theorem dX7_beginNextDay_5 : decode cX7_beginNextDay 5 = .ok (.iconst 1, 1) := by decide +kernel
theorem dX7_beginNextDay_6 : decode cX7_beginNextDay 6 = .ok (.iadd, 1) := by decide +kernel
theorem dX7_beginNextDay_7 : decode cX7_beginNextDay 7 = .ok (.putfield 24, 3) := by decide +kernel
theorem dX7_beginNextDay_10 : decode cX7_beginNextDay 10 = .ok (.aload_n 0, 1) := by decide +kernel
theorem dX7_beginNextDay_11 : decode cX7_beginNextDay 11 = .ok (.iconst 0, 1) := by decide +kernel
theorem dX7_beginNextDay_12 : decode cX7_beginNextDay 12 = .ok (.putfield 20, 3) := by decide +kernel
theorem dX7_beginNextDay_15 : decode cX7_beginNextDay 15 = .ok (.aload_n 0, 1) := by decide +kernel
theorem dX7_beginNextDay_16 : decode cX7_beginNextDay 16 = .ok (.invokevirtual 48, 3) := by decide +kernel
theorem dX7_beginNextDay_19 : decode cX7_beginNextDay 19 = .ok (.return_, 1) := by decide +kernel
theorem dX7_packedSteps_0 : decode cX7_packedSteps 0 = .ok (.lconst 0, 1) := by decide +kernel
theorem dX7_packedSteps_1 : decode cX7_packedSteps 1 = .ok (.lstore_n 1, 1) := by decide +kernel
theorem dX7_packedSteps_2 : decode cX7_packedSteps 2 = .ok (.iconst 0, 1) := by decide +kernel
theorem dX7_packedSteps_3 : decode cX7_packedSteps 3 = .ok (.istore_n 3, 1) := by decide +kernel
theorem dX7_packedSteps_4 : decode cX7_packedSteps 4 = .ok (.iload_n 3, 1) := by decide +kernel
theorem dX7_packedSteps_5 : decode cX7_packedSteps 5 = .ok (.aload_n 0, 1) := by decide +kernel
theorem dX7_packedSteps_6 : decode cX7_packedSteps 6 = .ok (.getfield 30, 3) := by decide +kernel
theorem dX7_packedSteps_9 : decode cX7_packedSteps 9 = .ok (.getfield 38, 3) := by decide +kernel
theorem dX7_packedSteps_12 : decode cX7_packedSteps 12 = .ok (.if_icmp .ge 23, 3) := by decide +kernel
theorem dX7_packedSteps_15 : decode cX7_packedSteps 15 = .ok (.lload_n 1, 1) := by decide +kernel
theorem dX7_packedSteps_16 : decode cX7_packedSteps 16 = .ok (.aload_n 0, 1) := by decide +kernel
theorem dX7_packedSteps_17 : decode cX7_packedSteps 17 = .ok (.getfield 11, 3) := by decide +kernel
theorem dX7_packedSteps_20 : decode cX7_packedSteps 20 = .ok (.iload_n 3, 1) := by decide +kernel
theorem dX7_packedSteps_21 : decode cX7_packedSteps 21 = .ok (.iaload, 1) := by decide +kernel
theorem dX7_packedSteps_22 : decode cX7_packedSteps 22 = .ok (.i2l, 1) := by decide +kernel
theorem dX7_packedSteps_23 : decode cX7_packedSteps 23 = .ok (.iload_n 3, 1) := by decide +kernel
theorem dX7_packedSteps_24 : decode cX7_packedSteps 24 = .ok (.iconst 5, 1) := by decide +kernel
theorem dX7_packedSteps_25 : decode cX7_packedSteps 25 = .ok (.imul, 1) := by decide +kernel
theorem dX7_packedSteps_26 : decode cX7_packedSteps 26 = .ok (.lshl, 1) := by decide +kernel
theorem dX7_packedSteps_27 : decode cX7_packedSteps 27 = .ok (.lor, 1) := by decide +kernel
theorem dX7_packedSteps_28 : decode cX7_packedSteps 28 = .ok (.lstore_n 1, 1) := by decide +kernel
theorem dX7_packedSteps_29 : decode cX7_packedSteps 29 = .ok (.iinc 3 1, 3) := by decide +kernel
theorem dX7_packedSteps_32 : decode cX7_packedSteps 32 = .ok (.goto (-28), 3) := by decide +kernel
theorem dX7_packedSteps_35 : decode cX7_packedSteps 35 = .ok (.lload_n 1, 1) := by decide +kernel
theorem dX7_packedSteps_36 : decode cX7_packedSteps 36 = .ok (.lreturn, 1) := by decide +kernel
theorem dX7_packedRests_0 : decode cX7_packedRests 0 = .ok (.lconst 0, 1) := by decide +kernel
theorem dX7_packedRests_1 : decode cX7_packedRests 1 = .ok (.lstore_n 1, 1) := by decide +kernel
theorem dX7_packedRests_2 : decode cX7_packedRests 2 = .ok (.iconst 0, 1) := by decide +kernel
theorem dX7_packedRests_3 : decode cX7_packedRests 3 = .ok (.istore_n 3, 1) := by decide +kernel
theorem dX7_packedRests_4 : decode cX7_packedRests 4 = .ok (.iload_n 3, 1) := by decide +kernel
theorem dX7_packedRests_5 : decode cX7_packedRests 5 = .ok (.aload_n 0, 1) := by decide +kernel
theorem dX7_packedRests_6 : decode cX7_packedRests 6 = .ok (.getfield 30, 3) := by decide +kernel
theorem dX7_packedRests_9 : decode cX7_packedRests 9 = .ok (.getfield 38, 3) := by decide +kernel
theorem dX7_packedRests_12 : decode cX7_packedRests 12 = .ok (.if_icmp .ge 23, 3) := by decide +kernel
theorem dX7_packedRests_15 : decode cX7_packedRests 15 = .ok (.lload_n 1, 1) := by decide +kernel
theorem dX7_packedRests_16 : decode cX7_packedRests 16 = .ok (.aload_n 0, 1) := by decide +kernel
theorem dX7_packedRests_17 : decode cX7_packedRests 17 = .ok (.getfield 17, 3) := by decide +kernel
theorem dX7_packedRests_20 : decode cX7_packedRests 20 = .ok (.iload_n 3, 1) := by decide +kernel
theorem dX7_packedRests_21 : decode cX7_packedRests 21 = .ok (.iaload, 1) := by decide +kernel
theorem dX7_packedRests_22 : decode cX7_packedRests 22 = .ok (.i2l, 1) := by decide +kernel
theorem dX7_packedRests_23 : decode cX7_packedRests 23 = .ok (.iload_n 3, 1) := by decide +kernel
theorem dX7_packedRests_24 : decode cX7_packedRests 24 = .ok (.iconst 4, 1) := by decide +kernel
theorem dX7_packedRests_25 : decode cX7_packedRests 25 = .ok (.imul, 1) := by decide +kernel
theorem dX7_packedRests_26 : decode cX7_packedRests 26 = .ok (.lshl, 1) := by decide +kernel
theorem dX7_packedRests_27 : decode cX7_packedRests 27 = .ok (.lor, 1) := by decide +kernel
theorem dX7_packedRests_28 : decode cX7_packedRests 28 = .ok (.lstore_n 1, 1) := by decide +kernel
theorem dX7_packedRests_29 : decode cX7_packedRests 29 = .ok (.iinc 3 1, 3) := by decide +kernel
theorem dX7_packedRests_32 : decode cX7_packedRests 32 = .ok (.goto (-28), 3) := by decide +kernel
theorem dX7_packedRests_35 : decode cX7_packedRests 35 = .ok (.lload_n 1, 1) := by decide +kernel
theorem dX7_packedRests_36 : decode cX7_packedRests 36 = .ok (.lreturn, 1) := by decide +kernel
theorem dX7_unpack_0 : decode cX7_unpack 0 = .ok (.iconst 0, 1) := by decide +kernel
theorem dX7_unpack_1 : decode cX7_unpack 1 = .ok (.istore 7, 2) := by decide +kernel
theorem dX7_unpack_3 : decode cX7_unpack 3 = .ok (.iload 7, 2) := by decide +kernel
theorem dX7_unpack_5 : decode cX7_unpack 5 = .ok (.aload_n 0, 1) := by decide +kernel
theorem dX7_unpack_6 : decode cX7_unpack 6 = .ok (.getfield 30, 3) := by decide +kernel
theorem dX7_unpack_9 : decode cX7_unpack 9 = .ok (.getfield 38, 3) := by decide +kernel
theorem dX7_unpack_12 : decode cX7_unpack 12 = .ok (.if_icmp .ge 43, 3) := by decide +kernel
theorem dX7_unpack_15 : decode cX7_unpack 15 = .ok (.aload_n 0, 1) := by decide +kernel
theorem dX7_unpack_16 : decode cX7_unpack 16 = .ok (.getfield 11, 3) := by decide +kernel
theorem dX7_unpack_19 : decode cX7_unpack 19 = .ok (.iload 7, 2) := by decide +kernel
theorem dX7_unpack_21 : decode cX7_unpack 21 = .ok (.lload_n 1, 1) := by decide +kernel
theorem dX7_unpack_22 : decode cX7_unpack 22 = .ok (.iload 7, 2) := by decide +kernel
theorem dX7_unpack_24 : decode cX7_unpack 24 = .ok (.iconst 5, 1) := by decide +kernel
theorem dX7_unpack_25 : decode cX7_unpack 25 = .ok (.imul, 1) := by decide +kernel
theorem dX7_unpack_26 : decode cX7_unpack 26 = .ok (.lshr, 1) := by decide +kernel
theorem dX7_unpack_27 : decode cX7_unpack 27 = .ok (.l2i, 1) := by decide +kernel
theorem dX7_unpack_28 : decode cX7_unpack 28 = .ok (.bipush 31, 2) := by decide +kernel
theorem dX7_unpack_30 : decode cX7_unpack 30 = .ok (.iand, 1) := by decide +kernel
theorem dX7_unpack_31 : decode cX7_unpack 31 = .ok (.iastore, 1) := by decide +kernel
theorem dX7_unpack_32 : decode cX7_unpack 32 = .ok (.aload_n 0, 1) := by decide +kernel
theorem dX7_unpack_33 : decode cX7_unpack 33 = .ok (.getfield 17, 3) := by decide +kernel
theorem dX7_unpack_36 : decode cX7_unpack 36 = .ok (.iload 7, 2) := by decide +kernel
theorem dX7_unpack_38 : decode cX7_unpack 38 = .ok (.lload_n 3, 1) := by decide +kernel
theorem dX7_unpack_39 : decode cX7_unpack 39 = .ok (.iload 7, 2) := by decide +kernel
theorem dX7_unpack_41 : decode cX7_unpack 41 = .ok (.iconst 4, 1) := by decide +kernel
theorem dX7_unpack_42 : decode cX7_unpack 42 = .ok (.imul, 1) := by decide +kernel
theorem dX7_unpack_43 : decode cX7_unpack 43 = .ok (.lshr, 1) := by decide +kernel
theorem dX7_unpack_44 : decode cX7_unpack 44 = .ok (.l2i, 1) := by decide +kernel
theorem dX7_unpack_45 : decode cX7_unpack 45 = .ok (.bipush 15, 2) := by decide +kernel
theorem dX7_unpack_47 : decode cX7_unpack 47 = .ok (.iand, 1) := by decide +kernel
theorem dX7_unpack_48 : decode cX7_unpack 48 = .ok (.iastore, 1) := by decide +kernel
theorem dX7_unpack_49 : decode cX7_unpack 49 = .ok (.iinc 7 1, 3) := by decide +kernel
theorem dX7_unpack_52 : decode cX7_unpack 52 = .ok (.goto (-49), 3) := by decide +kernel
theorem dX7_unpack_55 : decode cX7_unpack 55 = .ok (.aload_n 0, 1) := by decide +kernel
theorem dX7_unpack_56 : decode cX7_unpack 56 = .ok (.iload 5, 2) := by decide +kernel
theorem dX7_unpack_58 : decode cX7_unpack 58 = .ok (.putfield 20, 3) := by decide +kernel
theorem dX7_unpack_61 : decode cX7_unpack 61 = .ok (.aload_n 0, 1) := by decide +kernel
theorem dX7_unpack_62 : decode cX7_unpack 62 = .ok (.iload 6, 2) := by decide +kernel
theorem dX7_unpack_64 : decode cX7_unpack 64 = .ok (.putfield 24, 3) := by decide +kernel
theorem dX7_unpack_67 : decode cX7_unpack 67 = .ok (.aload_n 0, 1) := by decide +kernel
theorem dX7_unpack_68 : decode cX7_unpack 68 = .ok (.invokevirtual 48, 3) := by decide +kernel
theorem dX7_unpack_71 : decode cX7_unpack 71 = .ok (.return_, 1) := by decide +kernel
theorem dX8_init_0 : decode cX8_init 0 = .ok (.aload_n 0, 1) := by decide +kernel
theorem dX8_init_1 : decode cX8_init 1 = .ok (.invokespecial 3, 3) := by decide +kernel
theorem dX8_init_4 : decode cX8_init 4 = .ok (.aload_n 0, 1) := by decide +kernel
theorem dX8_init_5 : decode cX8_init 5 = .ok (.sipush 240, 3) := by decide +kernel
theorem dX8_init_8 : decode cX8_init 8 = .ok (.newarray .int, 2) := by decide +kernel
theorem dX8_init_10 : decode cX8_init 10 = .ok (.putfield 11, 3) := by decide +kernel
theorem dX8_init_13 : decode cX8_init 13 = .ok (.aload_n 0, 1) := by decide +kernel
theorem dX8_init_14 : decode cX8_init 14 = .ok (.iconst 0, 1) := by decide +kernel
theorem dX8_init_15 : decode cX8_init 15 = .ok (.putfield 15, 3) := by decide +kernel
theorem dX8_init_18 : decode cX8_init 18 = .ok (.return_, 1) := by decide +kernel
theorem dX8_bytesIn_0 : decode cX8_bytesIn 0 = .ok (.iconst 0, 1) := by decide +kernel
theorem dX8_bytesIn_1 : decode cX8_bytesIn 1 = .ok (.istore_n 1, 1) := by decide +kernel
theorem dX8_bytesIn_2 : decode cX8_bytesIn 2 = .ok (.bipush 24, 2) := by decide +kernel
theorem dX8_bytesIn_4 : decode cX8_bytesIn 4 = .ok (.istore_n 2, 1) := by decide +kernel
theorem dX8_bytesIn_5 : decode cX8_bytesIn 5 = .ok (.iload_n 2, 1) := by decide +kernel
theorem dX8_bytesIn_6 : decode cX8_bytesIn 6 = .ok (.ifCond .lt 27, 3) := by decide +kernel
theorem dX8_bytesIn_9 : decode cX8_bytesIn 9 = .ok (.iload_n 1, 1) := by decide +kernel
theorem dX8_bytesIn_10 : decode cX8_bytesIn 10 = .ok (.iload_n 0, 1) := by decide +kernel
theorem dX8_bytesIn_11 : decode cX8_bytesIn 11 = .ok (.iload_n 2, 1) := by decide +kernel
theorem dX8_bytesIn_12 : decode cX8_bytesIn 12 = .ok (.iushr, 1) := by decide +kernel
theorem dX8_bytesIn_13 : decode cX8_bytesIn 13 = .ok (.sipush 255, 3) := by decide +kernel
theorem dX8_bytesIn_16 : decode cX8_bytesIn 16 = .ok (.iand, 1) := by decide +kernel
theorem dX8_bytesIn_17 : decode cX8_bytesIn 17 = .ok (.ifCond .eq 7, 3) := by decide +kernel
theorem dX8_bytesIn_20 : decode cX8_bytesIn 20 = .ok (.iconst 1, 1) := by decide +kernel
theorem dX8_bytesIn_21 : decode cX8_bytesIn 21 = .ok (.goto 4, 3) := by decide +kernel
theorem dX8_bytesIn_24 : decode cX8_bytesIn 24 = .ok (.iconst 0, 1) := by decide +kernel
theorem dX8_bytesIn_25 : decode cX8_bytesIn 25 = .ok (.iadd, 1) := by decide +kernel
theorem dX8_bytesIn_26 : decode cX8_bytesIn 26 = .ok (.istore_n 1, 1) := by decide +kernel
theorem dX8_bytesIn_27 : decode cX8_bytesIn 27 = .ok (.iinc 2 (-8), 3) := by decide +kernel
theorem dX8_bytesIn_30 : decode cX8_bytesIn 30 = .ok (.goto (-25), 3) := by decide +kernel
theorem dX8_bytesIn_33 : decode cX8_bytesIn 33 = .ok (.iload_n 1, 1) := by decide +kernel
theorem dX8_bytesIn_34 : decode cX8_bytesIn 34 = .ok (.ireturn, 1) := by decide +kernel
theorem dX8_put_0 : decode cX8_put 0 = .ok (.bipush 24, 2) := by decide +kernel
theorem dX8_put_2 : decode cX8_put 2 = .ok (.istore_n 2, 1) := by decide +kernel
theorem dX8_put_3 : decode cX8_put 3 = .ok (.iload_n 2, 1) := by decide +kernel
theorem dX8_put_4 : decode cX8_put 4 = .ok (.ifCond .lt 60, 3) := by decide +kernel
theorem dX8_put_7 : decode cX8_put 7 = .ok (.iload_n 1, 1) := by decide +kernel
theorem dX8_put_8 : decode cX8_put 8 = .ok (.iload_n 2, 1) := by decide +kernel
theorem dX8_put_9 : decode cX8_put 9 = .ok (.iushr, 1) := by decide +kernel
theorem dX8_put_10 : decode cX8_put 10 = .ok (.sipush 255, 3) := by decide +kernel
theorem dX8_put_13 : decode cX8_put 13 = .ok (.iand, 1) := by decide +kernel
theorem dX8_put_14 : decode cX8_put 14 = .ok (.istore_n 3, 1) := by decide +kernel
theorem dX8_put_15 : decode cX8_put 15 = .ok (.iload_n 3, 1) := by decide +kernel
theorem dX8_put_16 : decode cX8_put 16 = .ok (.ifCond .eq 42, 3) := by decide +kernel
theorem dX8_put_19 : decode cX8_put 19 = .ok (.aload_n 0, 1) := by decide +kernel
theorem dX8_put_20 : decode cX8_put 20 = .ok (.getfield 15, 3) := by decide +kernel
theorem dX8_put_23 : decode cX8_put 23 = .ok (.ifCond .lt 35, 3) := by decide +kernel
theorem dX8_put_26 : decode cX8_put 26 = .ok (.aload_n 0, 1) := by decide +kernel
theorem dX8_put_27 : decode cX8_put 27 = .ok (.getfield 15, 3) := by decide +kernel
theorem dX8_put_30 : decode cX8_put 30 = .ok (.aload_n 0, 1) := by decide +kernel
theorem dX8_put_31 : decode cX8_put 31 = .ok (.getfield 11, 3) := by decide +kernel
theorem dX8_put_34 : decode cX8_put 34 = .ok (.arraylength, 1) := by decide +kernel
theorem dX8_put_35 : decode cX8_put 35 = .ok (.if_icmp .ge 23, 3) := by decide +kernel
theorem dX8_put_38 : decode cX8_put 38 = .ok (.aload_n 0, 1) := by decide +kernel
theorem dX8_put_39 : decode cX8_put 39 = .ok (.getfield 11, 3) := by decide +kernel
theorem dX8_put_42 : decode cX8_put 42 = .ok (.aload_n 0, 1) := by decide +kernel
theorem dX8_put_43 : decode cX8_put 43 = .ok (.getfield 15, 3) := by decide +kernel
theorem dX8_put_46 : decode cX8_put 46 = .ok (.iload_n 3, 1) := by decide +kernel
theorem dX8_put_47 : decode cX8_put 47 = .ok (.iastore, 1) := by decide +kernel
theorem dX8_put_48 : decode cX8_put 48 = .ok (.aload_n 0, 1) := by decide +kernel
theorem dX8_put_49 : decode cX8_put 49 = .ok (.dup, 1) := by decide +kernel
theorem dX8_put_50 : decode cX8_put 50 = .ok (.getfield 15, 3) := by decide +kernel
theorem dX8_put_53 : decode cX8_put 53 = .ok (.iconst 1, 1) := by decide +kernel
theorem dX8_put_54 : decode cX8_put 54 = .ok (.iadd, 1) := by decide +kernel
theorem dX8_put_55 : decode cX8_put 55 = .ok (.putfield 15, 3) := by decide +kernel
theorem dX8_put_58 : decode cX8_put 58 = .ok (.iinc 2 (-8), 3) := by decide +kernel
theorem dX8_put_61 : decode cX8_put 61 = .ok (.goto (-58), 3) := by decide +kernel
theorem dX8_put_64 : decode cX8_put 64 = .ok (.return_, 1) := by decide +kernel
theorem dX8_at_0 : decode cX8_at 0 = .ok (.iload_n 1, 1) := by decide +kernel
theorem dX8_at_1 : decode cX8_at 1 = .ok (.ifCond .lt 29, 3) := by decide +kernel
theorem dX8_at_4 : decode cX8_at 4 = .ok (.iload_n 1, 1) := by decide +kernel
theorem dX8_at_5 : decode cX8_at 5 = .ok (.aload_n 0, 1) := by decide +kernel
theorem dX8_at_6 : decode cX8_at 6 = .ok (.getfield 15, 3) := by decide +kernel
theorem dX8_at_9 : decode cX8_at 9 = .ok (.if_icmp .ge 21, 3) := by decide +kernel
theorem dX8_at_12 : decode cX8_at 12 = .ok (.iload_n 1, 1) := by decide +kernel
theorem dX8_at_13 : decode cX8_at 13 = .ok (.aload_n 0, 1) := by decide +kernel
theorem dX8_at_14 : decode cX8_at 14 = .ok (.getfield 11, 3) := by decide +kernel
theorem dX8_at_17 : decode cX8_at 17 = .ok (.arraylength, 1) := by decide +kernel
theorem dX8_at_18 : decode cX8_at 18 = .ok (.if_icmp .ge 12, 3) := by decide +kernel
theorem dX8_at_21 : decode cX8_at 21 = .ok (.aload_n 0, 1) := by decide +kernel
theorem dX8_at_22 : decode cX8_at 22 = .ok (.getfield 11, 3) := by decide +kernel
theorem dX8_at_25 : decode cX8_at 25 = .ok (.iload_n 1, 1) := by decide +kernel
theorem dX8_at_26 : decode cX8_at 26 = .ok (.iaload, 1) := by decide +kernel
theorem dX8_at_27 : decode cX8_at 27 = .ok (.goto 4, 3) := by decide +kernel
theorem dX8_at_30 : decode cX8_at 30 = .ok (.iconst (-1), 1) := by decide +kernel
theorem dX8_at_31 : decode cX8_at 31 = .ok (.ireturn, 1) := by decide +kernel
theorem dX8_behindBlanks_0 : decode cX8_behindBlanks 0 = .ok (.iload_n 1, 1) := by decide +kernel
theorem dX8_behindBlanks_1 : decode cX8_behindBlanks 1 = .ok (.istore_n 2, 1) := by decide +kernel
theorem dX8_behindBlanks_2 : decode cX8_behindBlanks 2 = .ok (.iload_n 2, 1) := by decide +kernel
theorem dX8_behindBlanks_3 : decode cX8_behindBlanks 3 = .ok (.ifCond .lt 35, 3) := by decide +kernel
theorem dX8_behindBlanks_6 : decode cX8_behindBlanks 6 = .ok (.iload_n 2, 1) := by decide +kernel
theorem dX8_behindBlanks_7 : decode cX8_behindBlanks 7 = .ok (.aload_n 0, 1) := by decide +kernel
theorem dX8_behindBlanks_8 : decode cX8_behindBlanks 8 = .ok (.getfield 15, 3) := by decide +kernel
theorem dX8_behindBlanks_11 : decode cX8_behindBlanks 11 = .ok (.if_icmp .ge 27, 3) := by decide +kernel
theorem dX8_behindBlanks_14 : decode cX8_behindBlanks 14 = .ok (.iload_n 2, 1) := by decide +kernel
theorem dX8_behindBlanks_15 : decode cX8_behindBlanks 15 = .ok (.sipush 240, 3) := by decide +kernel
theorem dX8_behindBlanks_18 : decode cX8_behindBlanks 18 = .ok (.if_icmp .ge 20, 3) := by decide +kernel
theorem dX8_behindBlanks_21 : decode cX8_behindBlanks 21 = .ok (.aload_n 0, 1) := by decide +kernel
theorem dX8_behindBlanks_22 : decode cX8_behindBlanks 22 = .ok (.getfield 11, 3) := by decide +kernel
theorem dX8_behindBlanks_25 : decode cX8_behindBlanks 25 = .ok (.iload_n 2, 1) := by decide +kernel
theorem dX8_behindBlanks_26 : decode cX8_behindBlanks 26 = .ok (.iaload, 1) := by decide +kernel
theorem dX8_behindBlanks_27 : decode cX8_behindBlanks 27 = .ok (.bipush 32, 2) := by decide +kernel
theorem dX8_behindBlanks_29 : decode cX8_behindBlanks 29 = .ok (.if_icmp .ne 9, 3) := by decide +kernel
theorem dX8_behindBlanks_32 : decode cX8_behindBlanks 32 = .ok (.iinc 2 1, 3) := by decide +kernel
theorem dX8_behindBlanks_35 : decode cX8_behindBlanks 35 = .ok (.goto (-33), 3) := by decide +kernel
theorem dX8_behindBlanks_38 : decode cX8_behindBlanks 38 = .ok (.iload_n 2, 1) := by decide +kernel
theorem dX8_behindBlanks_39 : decode cX8_behindBlanks 39 = .ok (.ireturn, 1) := by decide +kernel
theorem dX8_digitAt_0 : decode cX8_digitAt 0 = .ok (.iload_n 1, 1) := by decide +kernel
theorem dX8_digitAt_1 : decode cX8_digitAt 1 = .ok (.ifCond .lt 24, 3) := by decide +kernel
theorem dX8_digitAt_4 : decode cX8_digitAt 4 = .ok (.iload_n 1, 1) := by decide +kernel
theorem dX8_digitAt_5 : decode cX8_digitAt 5 = .ok (.aload_n 0, 1) := by decide +kernel
theorem dX8_digitAt_6 : decode cX8_digitAt 6 = .ok (.getfield 15, 3) := by decide +kernel
theorem dX8_digitAt_9 : decode cX8_digitAt 9 = .ok (.if_icmp .ge 16, 3) := by decide +kernel
theorem dX8_digitAt_12 : decode cX8_digitAt 12 = .ok (.iload_n 1, 1) := by decide +kernel
theorem dX8_digitAt_13 : decode cX8_digitAt 13 = .ok (.aload_n 0, 1) := by decide +kernel
theorem dX8_digitAt_14 : decode cX8_digitAt 14 = .ok (.getfield 11, 3) := by decide +kernel
theorem dX8_digitAt_17 : decode cX8_digitAt 17 = .ok (.arraylength, 1) := by decide +kernel
theorem dX8_digitAt_18 : decode cX8_digitAt 18 = .ok (.if_icmp .ge 7, 3) := by decide +kernel
theorem dX8_digitAt_21 : decode cX8_digitAt 21 = .ok (.iconst 1, 1) := by decide +kernel
theorem dX8_digitAt_22 : decode cX8_digitAt 22 = .ok (.goto 4, 3) := by decide +kernel
theorem dX8_digitAt_25 : decode cX8_digitAt 25 = .ok (.iconst 0, 1) := by decide +kernel
theorem dX8_digitAt_26 : decode cX8_digitAt 26 = .ok (.istore_n 2, 1) := by decide +kernel
theorem dX8_digitAt_27 : decode cX8_digitAt 27 = .ok (.iload_n 2, 1) := by decide +kernel
theorem dX8_digitAt_28 : decode cX8_digitAt 28 = .ok (.ifCond .eq 29, 3) := by decide +kernel
theorem dX8_digitAt_31 : decode cX8_digitAt 31 = .ok (.aload_n 0, 1) := by decide +kernel
theorem dX8_digitAt_32 : decode cX8_digitAt 32 = .ok (.getfield 11, 3) := by decide +kernel
theorem dX8_digitAt_35 : decode cX8_digitAt 35 = .ok (.iload_n 1, 1) := by decide +kernel
theorem dX8_digitAt_36 : decode cX8_digitAt 36 = .ok (.iaload, 1) := by decide +kernel
theorem dX8_digitAt_37 : decode cX8_digitAt 37 = .ok (.bipush 48, 2) := by decide +kernel
theorem dX8_digitAt_39 : decode cX8_digitAt 39 = .ok (.if_icmp .lt 18, 3) := by decide +kernel
theorem dX8_digitAt_42 : decode cX8_digitAt 42 = .ok (.aload_n 0, 1) := by decide +kernel
theorem dX8_digitAt_43 : decode cX8_digitAt 43 = .ok (.getfield 11, 3) := by decide +kernel
theorem dX8_digitAt_46 : decode cX8_digitAt 46 = .ok (.iload_n 1, 1) := by decide +kernel
theorem dX8_digitAt_47 : decode cX8_digitAt 47 = .ok (.iaload, 1) := by decide +kernel
theorem dX8_digitAt_48 : decode cX8_digitAt 48 = .ok (.bipush 57, 2) := by decide +kernel
theorem dX8_digitAt_50 : decode cX8_digitAt 50 = .ok (.if_icmp .gt 7, 3) := by decide +kernel
theorem dX8_digitAt_53 : decode cX8_digitAt 53 = .ok (.iconst 1, 1) := by decide +kernel
theorem dX8_digitAt_54 : decode cX8_digitAt 54 = .ok (.goto 4, 3) := by decide +kernel
theorem dX8_digitAt_57 : decode cX8_digitAt 57 = .ok (.iconst 0, 1) := by decide +kernel
theorem dX8_digitAt_58 : decode cX8_digitAt 58 = .ok (.ireturn, 1) := by decide +kernel
theorem dX9_init_0 : decode cX9_init 0 = .ok (.aload_n 0, 1) := by decide +kernel
theorem dX9_init_1 : decode cX9_init 1 = .ok (.invokespecial 1, 3) := by decide +kernel
theorem dX9_init_4 : decode cX9_init 4 = .ok (.aload_n 0, 1) := by decide +kernel
theorem dX9_init_5 : decode cX9_init 5 = .ok (.iconst 0, 1) := by decide +kernel
theorem dX9_init_6 : decode cX9_init 6 = .ok (.putfield 7, 3) := by decide +kernel
theorem dX9_init_9 : decode cX9_init 9 = .ok (.aload_n 0, 1) := by decide +kernel
theorem dX9_init_10 : decode cX9_init 10 = .ok (.iconst 0, 1) := by decide +kernel
theorem dX9_init_11 : decode cX9_init 11 = .ok (.putfield 13, 3) := by decide +kernel
theorem dX9_init_14 : decode cX9_init 14 = .ok (.aload_n 0, 1) := by decide +kernel
theorem dX9_init_15 : decode cX9_init 15 = .ok (.iconst 0, 1) := by decide +kernel
theorem dX9_init_16 : decode cX9_init 16 = .ok (.putfield 16, 3) := by decide +kernel
theorem dX9_init_19 : decode cX9_init 19 = .ok (.aload_n 0, 1) := by decide +kernel
theorem dX9_init_20 : decode cX9_init 20 = .ok (.iconst 0, 1) := by decide +kernel
theorem dX9_init_21 : decode cX9_init 21 = .ok (.putfield 19, 3) := by decide +kernel
theorem dX9_init_24 : decode cX9_init 24 = .ok (.aload_n 0, 1) := by decide +kernel
theorem dX9_init_25 : decode cX9_init 25 = .ok (.iconst 1, 1) := by decide +kernel
theorem dX9_init_26 : decode cX9_init 26 = .ok (.putfield 22, 3) := by decide +kernel
theorem dX9_init_29 : decode cX9_init 29 = .ok (.aload_n 0, 1) := by decide +kernel
theorem dX9_init_30 : decode cX9_init 30 = .ok (.bipush 8, 2) := by decide +kernel
theorem dX9_init_32 : decode cX9_init 32 = .ok (.newarray .int, 2) := by decide +kernel
theorem dX9_init_34 : decode cX9_init 34 = .ok (.putfield 26, 3) := by decide +kernel
theorem dX9_init_37 : decode cX9_init 37 = .ok (.aload_n 0, 1) := by decide +kernel
theorem dX9_init_38 : decode cX9_init 38 = .ok (.bipush 8, 2) := by decide +kernel
theorem dX9_init_40 : decode cX9_init 40 = .ok (.newarray .int, 2) := by decide +kernel
theorem dX9_init_42 : decode cX9_init 42 = .ok (.putfield 30, 3) := by decide +kernel
theorem dX9_init_45 : decode cX9_init 45 = .ok (.aload_n 0, 1) := by decide +kernel
theorem dX9_init_46 : decode cX9_init 46 = .ok (.bipush 8, 2) := by decide +kernel
theorem dX9_init_48 : decode cX9_init 48 = .ok (.newarray .int, 2) := by decide +kernel
theorem dX9_init_50 : decode cX9_init 50 = .ok (.putfield 33, 3) := by decide +kernel
theorem dX9_init_53 : decode cX9_init 53 = .ok (.aload_n 0, 1) := by decide +kernel
theorem dX9_init_54 : decode cX9_init 54 = .ok (.bipush 8, 2) := by decide +kernel
theorem dX9_init_56 : decode cX9_init 56 = .ok (.newarray .int, 2) := by decide +kernel
theorem dX9_init_58 : decode cX9_init 58 = .ok (.putfield 36, 3) := by decide +kernel
theorem dX9_init_61 : decode cX9_init 61 = .ok (.aload_n 0, 1) := by decide +kernel
theorem dX9_init_62 : decode cX9_init 62 = .ok (.bipush 8, 2) := by decide +kernel
theorem dX9_init_64 : decode cX9_init 64 = .ok (.newarray .int, 2) := by decide +kernel
theorem dX9_init_66 : decode cX9_init 66 = .ok (.putfield 39, 3) := by decide +kernel
theorem dX9_init_69 : decode cX9_init 69 = .ok (.aload_n 0, 1) := by decide +kernel
theorem dX9_init_70 : decode cX9_init 70 = .ok (.bipush 8, 2) := by decide +kernel
theorem dX9_init_72 : decode cX9_init 72 = .ok (.newarray .int, 2) := by decide +kernel
theorem dX9_init_74 : decode cX9_init 74 = .ok (.putfield 42, 3) := by decide +kernel
theorem dX9_init_77 : decode cX9_init 77 = .ok (.aload_n 0, 1) := by decide +kernel
theorem dX9_init_78 : decode cX9_init 78 = .ok (.bipush 6, 2) := by decide +kernel
theorem dX9_init_80 : decode cX9_init 80 = .ok (.newarray .int, 2) := by decide +kernel
theorem dX9_init_82 : decode cX9_init 82 = .ok (.putfield 45, 3) := by decide +kernel
theorem dX9_init_85 : decode cX9_init 85 = .ok (.aload_n 0, 1) := by decide +kernel
theorem dX9_init_86 : decode cX9_init 86 = .ok (.bipush 6, 2) := by decide +kernel
theorem dX9_init_88 : decode cX9_init 88 = .ok (.newarray .int, 2) := by decide +kernel
theorem dX9_init_90 : decode cX9_init 90 = .ok (.putfield 48, 3) := by decide +kernel
theorem dX9_init_93 : decode cX9_init 93 = .ok (.aload_n 0, 1) := by decide +kernel
theorem dX9_init_94 : decode cX9_init 94 = .ok (.bipush 21, 2) := by decide +kernel
theorem dX9_init_96 : decode cX9_init 96 = .ok (.newarray .int, 2) := by decide +kernel
theorem dX9_init_98 : decode cX9_init 98 = .ok (.putfield 51, 3) := by decide +kernel
theorem dX9_init_101 : decode cX9_init 101 = .ok (.aload_n 0, 1) := by decide +kernel
theorem dX9_init_102 : decode cX9_init 102 = .ok (.iconst 2, 1) := by decide +kernel
theorem dX9_init_103 : decode cX9_init 103 = .ok (.newarray .int, 2) := by decide +kernel
theorem dX9_init_105 : decode cX9_init 105 = .ok (.putfield 54, 3) := by decide +kernel
theorem dX9_init_108 : decode cX9_init 108 = .ok (.return_, 1) := by decide +kernel
theorem dX9_clear_0 : decode cX9_clear 0 = .ok (.aload_n 0, 1) := by decide +kernel
theorem dX9_clear_1 : decode cX9_clear 1 = .ok (.iconst 0, 1) := by decide +kernel
theorem dX9_clear_2 : decode cX9_clear 2 = .ok (.putfield 7, 3) := by decide +kernel
theorem dX9_clear_5 : decode cX9_clear 5 = .ok (.aload_n 0, 1) := by decide +kernel
theorem dX9_clear_6 : decode cX9_clear 6 = .ok (.iconst 0, 1) := by decide +kernel
theorem dX9_clear_7 : decode cX9_clear 7 = .ok (.putfield 13, 3) := by decide +kernel
theorem dX9_clear_10 : decode cX9_clear 10 = .ok (.aload_n 0, 1) := by decide +kernel
theorem dX9_clear_11 : decode cX9_clear 11 = .ok (.iload_n 1, 1) := by decide +kernel
theorem dX9_clear_12 : decode cX9_clear 12 = .ok (.putfield 16, 3) := by decide +kernel
theorem dX9_clear_15 : decode cX9_clear 15 = .ok (.aload_n 0, 1) := by decide +kernel
theorem dX9_clear_16 : decode cX9_clear 16 = .ok (.iload_n 2, 1) := by decide +kernel
theorem dX9_clear_17 : decode cX9_clear 17 = .ok (.putfield 19, 3) := by decide +kernel
theorem dX9_clear_20 : decode cX9_clear 20 = .ok (.aload_n 0, 1) := by decide +kernel
theorem dX9_clear_21 : decode cX9_clear 21 = .ok (.iconst 1, 1) := by decide +kernel
theorem dX9_clear_22 : decode cX9_clear 22 = .ok (.putfield 22, 3) := by decide +kernel
theorem dX9_clear_25 : decode cX9_clear 25 = .ok (.aload_n 0, 1) := by decide +kernel
theorem dX9_clear_26 : decode cX9_clear 26 = .ok (.getfield 54, 3) := by decide +kernel
theorem dX9_clear_29 : decode cX9_clear 29 = .ok (.iconst 0, 1) := by decide +kernel
theorem dX9_clear_30 : decode cX9_clear 30 = .ok (.iconst 0, 1) := by decide +kernel
theorem dX9_clear_31 : decode cX9_clear 31 = .ok (.iastore, 1) := by decide +kernel
theorem dX9_clear_32 : decode cX9_clear 32 = .ok (.aload_n 0, 1) := by decide +kernel
theorem dX9_clear_33 : decode cX9_clear 33 = .ok (.getfield 54, 3) := by decide +kernel
theorem dX9_clear_36 : decode cX9_clear 36 = .ok (.iconst 1, 1) := by decide +kernel
theorem dX9_clear_37 : decode cX9_clear 37 = .ok (.iconst 0, 1) := by decide +kernel
theorem dX9_clear_38 : decode cX9_clear 38 = .ok (.iastore, 1) := by decide +kernel
theorem dX9_clear_39 : decode cX9_clear 39 = .ok (.iconst 0, 1) := by decide +kernel
theorem dX9_clear_40 : decode cX9_clear 40 = .ok (.istore_n 3, 1) := by decide +kernel
theorem dX9_clear_41 : decode cX9_clear 41 = .ok (.iload_n 3, 1) := by decide +kernel
theorem dX9_clear_42 : decode cX9_clear 42 = .ok (.aload_n 0, 1) := by decide +kernel
theorem dX9_clear_43 : decode cX9_clear 43 = .ok (.getfield 51, 3) := by decide +kernel
theorem dX9_clear_46 : decode cX9_clear 46 = .ok (.arraylength, 1) := by decide +kernel
theorem dX9_clear_47 : decode cX9_clear 47 = .ok (.if_icmp .ge 16, 3) := by decide +kernel
theorem dX9_clear_50 : decode cX9_clear 50 = .ok (.aload_n 0, 1) := by decide +kernel
theorem dX9_clear_51 : decode cX9_clear 51 = .ok (.getfield 51, 3) := by decide +kernel
theorem dX9_clear_54 : decode cX9_clear 54 = .ok (.iload_n 3, 1) := by decide +kernel
theorem dX9_clear_55 : decode cX9_clear 55 = .ok (.iconst 0, 1) := by decide +kernel
theorem dX9_clear_56 : decode cX9_clear 56 = .ok (.iastore, 1) := by decide +kernel
theorem dX9_clear_57 : decode cX9_clear 57 = .ok (.iinc 3 1, 3) := by decide +kernel
theorem dX9_clear_60 : decode cX9_clear 60 = .ok (.goto (-19), 3) := by decide +kernel
theorem dX9_clear_63 : decode cX9_clear 63 = .ok (.return_, 1) := by decide +kernel
theorem dX9_addMan_0 : decode cX9_addMan 0 = .ok (.aload_n 0, 1) := by decide +kernel
theorem dX9_addMan_1 : decode cX9_addMan 1 = .ok (.getfield 7, 3) := by decide +kernel
theorem dX9_addMan_4 : decode cX9_addMan 4 = .ok (.bipush 8, 2) := by decide +kernel
theorem dX9_addMan_6 : decode cX9_addMan 6 = .ok (.if_icmp .ge 10, 3) := by decide +kernel
theorem dX9_addMan_9 : decode cX9_addMan 9 = .ok (.aload_n 1, 1) := by decide +kernel
theorem dX9_addMan_10 : decode cX9_addMan 10 = .ok (.arraylength, 1) := by decide +kernel
theorem dX9_addMan_11 : decode cX9_addMan 11 = .ok (.bipush 6, 2) := by decide +kernel
theorem dX9_addMan_13 : decode cX9_addMan 13 = .ok (.if_icmp .ge 4, 3) := by decide +kernel
theorem dX9_addMan_16 : decode cX9_addMan 16 = .ok (.return_, 1) := by decide +kernel
theorem dX9_addMan_17 : decode cX9_addMan 17 = .ok (.aload_n 0, 1) := by decide +kernel
theorem dX9_addMan_18 : decode cX9_addMan 18 = .ok (.getfield 26, 3) := by decide +kernel
theorem dX9_addMan_21 : decode cX9_addMan 21 = .ok (.aload_n 0, 1) := by decide +kernel
theorem dX9_addMan_22 : decode cX9_addMan 22 = .ok (.getfield 7, 3) := by decide +kernel
theorem dX9_addMan_25 : decode cX9_addMan 25 = .ok (.aload_n 1, 1) := by decide +kernel
theorem dX9_addMan_26 : decode cX9_addMan 26 = .ok (.iconst 0, 1) := by decide +kernel
theorem dX9_addMan_27 : decode cX9_addMan 27 = .ok (.iaload, 1) := by decide +kernel
theorem dX9_addMan_28 : decode cX9_addMan 28 = .ok (.iconst 1, 1) := by decide +kernel
theorem dX9_addMan_29 : decode cX9_addMan 29 = .ok (.if_icmp .ne 7, 3) := by decide +kernel
theorem dX9_addMan_32 : decode cX9_addMan 32 = .ok (.iconst 1, 1) := by decide +kernel
theorem dX9_addMan_33 : decode cX9_addMan 33 = .ok (.goto 4, 3) := by decide +kernel
theorem dX9_addMan_36 : decode cX9_addMan 36 = .ok (.iconst 0, 1) := by decide +kernel
theorem dX9_addMan_37 : decode cX9_addMan 37 = .ok (.iastore, 1) := by decide +kernel
theorem dX9_addMan_38 : decode cX9_addMan 38 = .ok (.aload_n 0, 1) := by decide +kernel
theorem dX9_addMan_39 : decode cX9_addMan 39 = .ok (.getfield 30, 3) := by decide +kernel
theorem dX9_addMan_42 : decode cX9_addMan 42 = .ok (.aload_n 0, 1) := by decide +kernel
theorem dX9_addMan_43 : decode cX9_addMan 43 = .ok (.getfield 7, 3) := by decide +kernel
theorem dX9_addMan_46 : decode cX9_addMan 46 = .ok (.aload_n 1, 1) := by decide +kernel
theorem dX9_addMan_47 : decode cX9_addMan 47 = .ok (.iconst 1, 1) := by decide +kernel
theorem dX9_addMan_48 : decode cX9_addMan 48 = .ok (.iaload, 1) := by decide +kernel
theorem dX9_addMan_49 : decode cX9_addMan 49 = .ok (.iastore, 1) := by decide +kernel
theorem dX9_addMan_50 : decode cX9_addMan 50 = .ok (.aload_n 0, 1) := by decide +kernel
theorem dX9_addMan_51 : decode cX9_addMan 51 = .ok (.getfield 33, 3) := by decide +kernel
theorem dX9_addMan_54 : decode cX9_addMan 54 = .ok (.aload_n 0, 1) := by decide +kernel
theorem dX9_addMan_55 : decode cX9_addMan 55 = .ok (.getfield 7, 3) := by decide +kernel
theorem dX9_addMan_58 : decode cX9_addMan 58 = .ok (.aload_n 1, 1) := by decide +kernel
theorem dX9_addMan_59 : decode cX9_addMan 59 = .ok (.iconst 2, 1) := by decide +kernel
theorem dX9_addMan_60 : decode cX9_addMan 60 = .ok (.iaload, 1) := by decide +kernel
theorem dX9_addMan_61 : decode cX9_addMan 61 = .ok (.iastore, 1) := by decide +kernel
theorem dX9_addMan_62 : decode cX9_addMan 62 = .ok (.aload_n 0, 1) := by decide +kernel
theorem dX9_addMan_63 : decode cX9_addMan 63 = .ok (.getfield 36, 3) := by decide +kernel
theorem dX9_addMan_66 : decode cX9_addMan 66 = .ok (.aload_n 0, 1) := by decide +kernel
theorem dX9_addMan_67 : decode cX9_addMan 67 = .ok (.getfield 7, 3) := by decide +kernel
theorem dX9_addMan_70 : decode cX9_addMan 70 = .ok (.aload_n 1, 1) := by decide +kernel
theorem dX9_addMan_71 : decode cX9_addMan 71 = .ok (.iconst 3, 1) := by decide +kernel
theorem dX9_addMan_72 : decode cX9_addMan 72 = .ok (.iaload, 1) := by decide +kernel
theorem dX9_addMan_73 : decode cX9_addMan 73 = .ok (.iastore, 1) := by decide +kernel
theorem dX9_addMan_74 : decode cX9_addMan 74 = .ok (.aload_n 0, 1) := by decide +kernel
theorem dX9_addMan_75 : decode cX9_addMan 75 = .ok (.getfield 39, 3) := by decide +kernel
theorem dX9_addMan_78 : decode cX9_addMan 78 = .ok (.aload_n 0, 1) := by decide +kernel
theorem dX9_addMan_79 : decode cX9_addMan 79 = .ok (.getfield 7, 3) := by decide +kernel
theorem dX9_addMan_82 : decode cX9_addMan 82 = .ok (.aload_n 1, 1) := by decide +kernel
theorem dX9_addMan_83 : decode cX9_addMan 83 = .ok (.iconst 4, 1) := by decide +kernel
theorem dX9_addMan_84 : decode cX9_addMan 84 = .ok (.iaload, 1) := by decide +kernel
theorem dX9_addMan_85 : decode cX9_addMan 85 = .ok (.iastore, 1) := by decide +kernel
theorem dX9_addMan_86 : decode cX9_addMan 86 = .ok (.aload_n 0, 1) := by decide +kernel
theorem dX9_addMan_87 : decode cX9_addMan 87 = .ok (.getfield 42, 3) := by decide +kernel
theorem dX9_addMan_90 : decode cX9_addMan 90 = .ok (.aload_n 0, 1) := by decide +kernel
theorem dX9_addMan_91 : decode cX9_addMan 91 = .ok (.getfield 7, 3) := by decide +kernel
theorem dX9_addMan_94 : decode cX9_addMan 94 = .ok (.aload_n 1, 1) := by decide +kernel
theorem dX9_addMan_95 : decode cX9_addMan 95 = .ok (.iconst 5, 1) := by decide +kernel
theorem dX9_addMan_96 : decode cX9_addMan 96 = .ok (.iaload, 1) := by decide +kernel
theorem dX9_addMan_97 : decode cX9_addMan 97 = .ok (.iastore, 1) := by decide +kernel
theorem dX9_addMan_98 : decode cX9_addMan 98 = .ok (.aload_n 0, 1) := by decide +kernel
theorem dX9_addMan_99 : decode cX9_addMan 99 = .ok (.getfield 54, 3) := by decide +kernel
theorem dX9_addMan_102 : decode cX9_addMan 102 = .ok (.aload_n 1, 1) := by decide +kernel
theorem dX9_addMan_103 : decode cX9_addMan 103 = .ok (.iconst 0, 1) := by decide +kernel
theorem dX9_addMan_104 : decode cX9_addMan 104 = .ok (.iaload, 1) := by decide +kernel
theorem dX9_addMan_105 : decode cX9_addMan 105 = .ok (.iconst 1, 1) := by decide +kernel
theorem dX9_addMan_106 : decode cX9_addMan 106 = .ok (.if_icmp .ne 7, 3) := by decide +kernel
theorem dX9_addMan_109 : decode cX9_addMan 109 = .ok (.iconst 1, 1) := by decide +kernel
theorem dX9_addMan_110 : decode cX9_addMan 110 = .ok (.goto 4, 3) := by decide +kernel
theorem dX9_addMan_113 : decode cX9_addMan 113 = .ok (.iconst 0, 1) := by decide +kernel
theorem dX9_addMan_114 : decode cX9_addMan 114 = .ok (.dup2, 1) := by decide +kernel
theorem dX9_addMan_115 : decode cX9_addMan 115 = .ok (.iaload, 1) := by decide +kernel
theorem dX9_addMan_116 : decode cX9_addMan 116 = .ok (.iconst 1, 1) := by decide +kernel
theorem dX9_addMan_117 : decode cX9_addMan 117 = .ok (.aload_n 0, 1) := by decide +kernel
theorem dX9_addMan_118 : decode cX9_addMan 118 = .ok (.getfield 7, 3) := by decide +kernel
theorem dX9_addMan_121 : decode cX9_addMan 121 = .ok (.ishl, 1) := by decide +kernel
theorem dX9_addMan_122 : decode cX9_addMan 122 = .ok (.ior, 1) := by decide +kernel
theorem dX9_addMan_123 : decode cX9_addMan 123 = .ok (.iastore, 1) := by decide +kernel
theorem dX9_addMan_124 : decode cX9_addMan 124 = .ok (.aload_n 0, 1) := by decide +kernel
theorem dX9_addMan_125 : decode cX9_addMan 125 = .ok (.dup, 1) := by decide +kernel
theorem dX9_addMan_126 : decode cX9_addMan 126 = .ok (.getfield 7, 3) := by decide +kernel
theorem dX9_addMan_129 : decode cX9_addMan 129 = .ok (.iconst 1, 1) := by decide +kernel
theorem dX9_addMan_130 : decode cX9_addMan 130 = .ok (.iadd, 1) := by decide +kernel
theorem dX9_addMan_131 : decode cX9_addMan 131 = .ok (.putfield 7, 3) := by decide +kernel
theorem dX9_addMan_134 : decode cX9_addMan 134 = .ok (.return_, 1) := by decide +kernel
theorem dX9_addOrchard_0 : decode cX9_addOrchard 0 = .ok (.aload_n 0, 1) := by decide +kernel
theorem dX9_addOrchard_1 : decode cX9_addOrchard 1 = .ok (.getfield 13, 3) := by decide +kernel
theorem dX9_addOrchard_4 : decode cX9_addOrchard 4 = .ok (.bipush 6, 2) := by decide +kernel
theorem dX9_addOrchard_6 : decode cX9_addOrchard 6 = .ok (.if_icmp .ge 14, 3) := by decide +kernel
theorem dX9_addOrchard_9 : decode cX9_addOrchard 9 = .ok (.iload_n 1, 1) := by decide +kernel
theorem dX9_addOrchard_10 : decode cX9_addOrchard 10 = .ok (.iconst 1, 1) := by decide +kernel
theorem dX9_addOrchard_11 : decode cX9_addOrchard 11 = .ok (.if_icmp .lt 9, 3) := by decide +kernel
theorem dX9_addOrchard_14 : decode cX9_addOrchard 14 = .ok (.iload_n 1, 1) := by decide +kernel
theorem dX9_addOrchard_15 : decode cX9_addOrchard 15 = .ok (.bipush 20, 2) := by decide +kernel
theorem dX9_addOrchard_17 : decode cX9_addOrchard 17 = .ok (.if_icmp .le 4, 3) := by decide +kernel
theorem dX9_addOrchard_20 : decode cX9_addOrchard 20 = .ok (.return_, 1) := by decide +kernel
theorem dX9_addOrchard_21 : decode cX9_addOrchard 21 = .ok (.aload_n 0, 1) := by decide +kernel
theorem dX9_addOrchard_22 : decode cX9_addOrchard 22 = .ok (.aload_n 0, 1) := by decide +kernel
theorem dX9_addOrchard_23 : decode cX9_addOrchard 23 = .ok (.getfield 22, 3) := by decide +kernel
theorem dX9_addOrchard_26 : decode cX9_addOrchard 26 = .ok (.ifCond .eq 16, 3) := by decide +kernel
theorem dX9_addOrchard_29 : decode cX9_addOrchard 29 = .ok (.aload_n 0, 1) := by decide +kernel
theorem dX9_addOrchard_30 : decode cX9_addOrchard 30 = .ok (.getfield 51, 3) := by decide +kernel
theorem dX9_addOrchard_33 : decode cX9_addOrchard 33 = .ok (.iload_n 1, 1) := by decide +kernel
theorem dX9_addOrchard_34 : decode cX9_addOrchard 34 = .ok (.iaload, 1) := by decide +kernel
theorem dX9_addOrchard_35 : decode cX9_addOrchard 35 = .ok (.ifCond .ne 7, 3) := by decide +kernel
theorem dX9_addOrchard_38 : decode cX9_addOrchard 38 = .ok (.iconst 1, 1) := by decide +kernel
theorem dX9_addOrchard_39 : decode cX9_addOrchard 39 = .ok (.goto 4, 3) := by decide +kernel
theorem dX9_addOrchard_42 : decode cX9_addOrchard 42 = .ok (.iconst 0, 1) := by decide +kernel
theorem dX9_addOrchard_43 : decode cX9_addOrchard 43 = .ok (.putfield 22, 3) := by decide +kernel
theorem dX9_addOrchard_46 : decode cX9_addOrchard 46 = .ok (.aload_n 0, 1) := by decide +kernel
theorem dX9_addOrchard_47 : decode cX9_addOrchard 47 = .ok (.getfield 45, 3) := by decide +kernel
theorem dX9_addOrchard_50 : decode cX9_addOrchard 50 = .ok (.aload_n 0, 1) := by decide +kernel
theorem dX9_addOrchard_51 : decode cX9_addOrchard 51 = .ok (.getfield 13, 3) := by decide +kernel
theorem dX9_addOrchard_54 : decode cX9_addOrchard 54 = .ok (.iload_n 1, 1) := by decide +kernel
theorem dX9_addOrchard_55 : decode cX9_addOrchard 55 = .ok (.iastore, 1) := by decide +kernel
theorem dX9_addOrchard_56 : decode cX9_addOrchard 56 = .ok (.aload_n 0, 1) := by decide +kernel
theorem dX9_addOrchard_57 : decode cX9_addOrchard 57 = .ok (.getfield 48, 3) := by decide +kernel
theorem dX9_addOrchard_60 : decode cX9_addOrchard 60 = .ok (.aload_n 0, 1) := by decide +kernel
theorem dX9_addOrchard_61 : decode cX9_addOrchard 61 = .ok (.getfield 13, 3) := by decide +kernel
theorem dX9_addOrchard_64 : decode cX9_addOrchard 64 = .ok (.iload_n 2, 1) := by decide +kernel
theorem dX9_addOrchard_65 : decode cX9_addOrchard 65 = .ok (.iastore, 1) := by decide +kernel
theorem dX9_addOrchard_66 : decode cX9_addOrchard 66 = .ok (.aload_n 0, 1) := by decide +kernel
theorem dX9_addOrchard_67 : decode cX9_addOrchard 67 = .ok (.getfield 51, 3) := by decide +kernel
theorem dX9_addOrchard_70 : decode cX9_addOrchard 70 = .ok (.iload_n 1, 1) := by decide +kernel
theorem dX9_addOrchard_71 : decode cX9_addOrchard 71 = .ok (.iload_n 2, 1) := by decide +kernel
theorem dX9_addOrchard_72 : decode cX9_addOrchard 72 = .ok (.iastore, 1) := by decide +kernel
theorem dX9_addOrchard_73 : decode cX9_addOrchard 73 = .ok (.aload_n 0, 1) := by decide +kernel
theorem dX9_addOrchard_74 : decode cX9_addOrchard 74 = .ok (.dup, 1) := by decide +kernel
theorem dX9_addOrchard_75 : decode cX9_addOrchard 75 = .ok (.getfield 13, 3) := by decide +kernel
theorem dX9_addOrchard_78 : decode cX9_addOrchard 78 = .ok (.iconst 1, 1) := by decide +kernel
theorem dX9_addOrchard_79 : decode cX9_addOrchard 79 = .ok (.iadd, 1) := by decide +kernel
theorem dX9_addOrchard_80 : decode cX9_addOrchard 80 = .ok (.putfield 13, 3) := by decide +kernel
theorem dX9_addOrchard_83 : decode cX9_addOrchard 83 = .ok (.return_, 1) := by decide +kernel
theorem dX9_isWhole_0 : decode cX9_isWhole 0 = .ok (.aload_n 0, 1) := by decide +kernel
theorem dX9_isWhole_1 : decode cX9_isWhole 1 = .ok (.getfield 7, 3) := by decide +kernel
theorem dX9_isWhole_4 : decode cX9_isWhole 4 = .ok (.iconst 2, 1) := by decide +kernel
theorem dX9_isWhole_5 : decode cX9_isWhole 5 = .ok (.if_icmp .lt 32, 3) := by decide +kernel
theorem dX9_isWhole_8 : decode cX9_isWhole 8 = .ok (.aload_n 0, 1) := by decide +kernel
theorem dX9_isWhole_9 : decode cX9_isWhole 9 = .ok (.getfield 54, 3) := by decide +kernel
theorem dX9_isWhole_12 : decode cX9_isWhole 12 = .ok (.iconst 0, 1) := by decide +kernel
theorem dX9_isWhole_13 : decode cX9_isWhole 13 = .ok (.iaload, 1) := by decide +kernel
theorem dX9_isWhole_14 : decode cX9_isWhole 14 = .ok (.ifCond .eq 23, 3) := by decide +kernel
theorem dX9_isWhole_17 : decode cX9_isWhole 17 = .ok (.aload_n 0, 1) := by decide +kernel
theorem dX9_isWhole_18 : decode cX9_isWhole 18 = .ok (.getfield 54, 3) := by decide +kernel
theorem dX9_isWhole_21 : decode cX9_isWhole 21 = .ok (.iconst 1, 1) := by decide +kernel
theorem dX9_isWhole_22 : decode cX9_isWhole 22 = .ok (.iaload, 1) := by decide +kernel
theorem dX9_isWhole_23 : decode cX9_isWhole 23 = .ok (.ifCond .eq 14, 3) := by decide +kernel
theorem dX9_isWhole_26 : decode cX9_isWhole 26 = .ok (.aload_n 0, 1) := by decide +kernel
theorem dX9_isWhole_27 : decode cX9_isWhole 27 = .ok (.getfield 22, 3) := by decide +kernel
theorem dX9_isWhole_30 : decode cX9_isWhole 30 = .ok (.ifCond .eq 7, 3) := by decide +kernel
theorem dX9_isWhole_33 : decode cX9_isWhole 33 = .ok (.iconst 1, 1) := by decide +kernel
theorem dX9_isWhole_34 : decode cX9_isWhole 34 = .ok (.goto 4, 3) := by decide +kernel
theorem dX9_isWhole_37 : decode cX9_isWhole 37 = .ok (.iconst 0, 1) := by decide +kernel
theorem dX9_isWhole_38 : decode cX9_isWhole 38 = .ok (.ireturn, 1) := by decide +kernel
theorem dX9_take_0 : decode cX9_take 0 = .ok (.aload_n 0, 1) := by decide +kernel
theorem dX9_take_1 : decode cX9_take 1 = .ok (.aload_n 1, 1) := by decide +kernel
theorem dX9_take_2 : decode cX9_take 2 = .ok (.getfield 7, 3) := by decide +kernel
theorem dX9_take_5 : decode cX9_take 5 = .ok (.putfield 7, 3) := by decide +kernel
theorem dX9_take_8 : decode cX9_take 8 = .ok (.aload_n 0, 1) := by decide +kernel
theorem dX9_take_9 : decode cX9_take 9 = .ok (.aload_n 1, 1) := by decide +kernel
theorem dX9_take_10 : decode cX9_take 10 = .ok (.getfield 13, 3) := by decide +kernel
theorem dX9_take_13 : decode cX9_take 13 = .ok (.putfield 13, 3) := by decide +kernel
theorem dX9_take_16 : decode cX9_take 16 = .ok (.aload_n 0, 1) := by decide +kernel
theorem dX9_take_17 : decode cX9_take 17 = .ok (.aload_n 1, 1) := by decide +kernel
theorem dX9_take_18 : decode cX9_take 18 = .ok (.getfield 16, 3) := by decide +kernel
theorem dX9_take_21 : decode cX9_take 21 = .ok (.putfield 16, 3) := by decide +kernel
theorem dX9_take_24 : decode cX9_take 24 = .ok (.aload_n 0, 1) := by decide +kernel
theorem dX9_take_25 : decode cX9_take 25 = .ok (.aload_n 1, 1) := by decide +kernel
theorem dX9_take_26 : decode cX9_take 26 = .ok (.getfield 19, 3) := by decide +kernel
theorem dX9_take_29 : decode cX9_take 29 = .ok (.putfield 19, 3) := by decide +kernel
theorem dX9_take_32 : decode cX9_take 32 = .ok (.aload_n 1, 1) := by decide +kernel
theorem dX9_take_33 : decode cX9_take 33 = .ok (.getfield 26, 3) := by decide +kernel
theorem dX9_take_36 : decode cX9_take 36 = .ok (.iconst 0, 1) := by decide +kernel
theorem dX9_take_37 : decode cX9_take 37 = .ok (.aload_n 0, 1) := by decide +kernel
theorem dX9_take_38 : decode cX9_take 38 = .ok (.getfield 26, 3) := by decide +kernel
theorem dX9_take_41 : decode cX9_take 41 = .ok (.iconst 0, 1) := by decide +kernel
theorem dX9_take_42 : decode cX9_take 42 = .ok (.bipush 8, 2) := by decide +kernel
theorem dX9_take_44 : decode cX9_take 44 = .ok (.invokestatic 57, 3) := by decide +kernel
theorem dX9_take_47 : decode cX9_take 47 = .ok (.aload_n 1, 1) := by decide +kernel
theorem dX9_take_48 : decode cX9_take 48 = .ok (.getfield 30, 3) := by decide +kernel
theorem dX9_take_51 : decode cX9_take 51 = .ok (.iconst 0, 1) := by decide +kernel
theorem dX9_take_52 : decode cX9_take 52 = .ok (.aload_n 0, 1) := by decide +kernel
theorem dX9_take_53 : decode cX9_take 53 = .ok (.getfield 30, 3) := by decide +kernel
theorem dX9_take_56 : decode cX9_take 56 = .ok (.iconst 0, 1) := by decide +kernel
theorem dX9_take_57 : decode cX9_take 57 = .ok (.bipush 8, 2) := by decide +kernel
theorem dX9_take_59 : decode cX9_take 59 = .ok (.invokestatic 57, 3) := by decide +kernel
theorem dX9_take_62 : decode cX9_take 62 = .ok (.aload_n 1, 1) := by decide +kernel
theorem dX9_take_63 : decode cX9_take 63 = .ok (.getfield 33, 3) := by decide +kernel
theorem dX9_take_66 : decode cX9_take 66 = .ok (.iconst 0, 1) := by decide +kernel
theorem dX9_take_67 : decode cX9_take 67 = .ok (.aload_n 0, 1) := by decide +kernel
theorem dX9_take_68 : decode cX9_take 68 = .ok (.getfield 33, 3) := by decide +kernel
theorem dX9_take_71 : decode cX9_take 71 = .ok (.iconst 0, 1) := by decide +kernel
theorem dX9_take_72 : decode cX9_take 72 = .ok (.bipush 8, 2) := by decide +kernel
theorem dX9_take_74 : decode cX9_take 74 = .ok (.invokestatic 57, 3) := by decide +kernel
theorem dX9_take_77 : decode cX9_take 77 = .ok (.aload_n 1, 1) := by decide +kernel
theorem dX9_take_78 : decode cX9_take 78 = .ok (.getfield 36, 3) := by decide +kernel
theorem dX9_take_81 : decode cX9_take 81 = .ok (.iconst 0, 1) := by decide +kernel
theorem dX9_take_82 : decode cX9_take 82 = .ok (.aload_n 0, 1) := by decide +kernel
theorem dX9_take_83 : decode cX9_take 83 = .ok (.getfield 36, 3) := by decide +kernel
theorem dX9_take_86 : decode cX9_take 86 = .ok (.iconst 0, 1) := by decide +kernel
theorem dX9_take_87 : decode cX9_take 87 = .ok (.bipush 8, 2) := by decide +kernel
theorem dX9_take_89 : decode cX9_take 89 = .ok (.invokestatic 57, 3) := by decide +kernel
theorem dX9_take_92 : decode cX9_take 92 = .ok (.aload_n 1, 1) := by decide +kernel
theorem dX9_take_93 : decode cX9_take 93 = .ok (.getfield 39, 3) := by decide +kernel
theorem dX9_take_96 : decode cX9_take 96 = .ok (.iconst 0, 1) := by decide +kernel
theorem dX9_take_97 : decode cX9_take 97 = .ok (.aload_n 0, 1) := by decide +kernel
theorem dX9_take_98 : decode cX9_take 98 = .ok (.getfield 39, 3) := by decide +kernel
theorem dX9_take_101 : decode cX9_take 101 = .ok (.iconst 0, 1) := by decide +kernel
theorem dX9_take_102 : decode cX9_take 102 = .ok (.bipush 8, 2) := by decide +kernel
theorem dX9_take_104 : decode cX9_take 104 = .ok (.invokestatic 57, 3) := by decide +kernel
theorem dX9_take_107 : decode cX9_take 107 = .ok (.aload_n 1, 1) := by decide +kernel
theorem dX9_take_108 : decode cX9_take 108 = .ok (.getfield 42, 3) := by decide +kernel
theorem dX9_take_111 : decode cX9_take 111 = .ok (.iconst 0, 1) := by decide +kernel
theorem dX9_take_112 : decode cX9_take 112 = .ok (.aload_n 0, 1) := by decide +kernel
theorem dX9_take_113 : decode cX9_take 113 = .ok (.getfield 42, 3) := by decide +kernel
theorem dX9_take_116 : decode cX9_take 116 = .ok (.iconst 0, 1) := by decide +kernel
theorem dX9_take_117 : decode cX9_take 117 = .ok (.bipush 8, 2) := by decide +kernel
theorem dX9_take_119 : decode cX9_take 119 = .ok (.invokestatic 57, 3) := by decide +kernel
theorem dX9_take_122 : decode cX9_take 122 = .ok (.aload_n 1, 1) := by decide +kernel
theorem dX9_take_123 : decode cX9_take 123 = .ok (.getfield 45, 3) := by decide +kernel
theorem dX9_take_126 : decode cX9_take 126 = .ok (.iconst 0, 1) := by decide +kernel
theorem dX9_take_127 : decode cX9_take 127 = .ok (.aload_n 0, 1) := by decide +kernel
theorem dX9_take_128 : decode cX9_take 128 = .ok (.getfield 45, 3) := by decide +kernel
theorem dX9_take_131 : decode cX9_take 131 = .ok (.iconst 0, 1) := by decide +kernel
theorem dX9_take_132 : decode cX9_take 132 = .ok (.bipush 6, 2) := by decide +kernel
theorem dX9_take_134 : decode cX9_take 134 = .ok (.invokestatic 57, 3) := by decide +kernel
theorem dX9_take_137 : decode cX9_take 137 = .ok (.aload_n 1, 1) := by decide +kernel
theorem dX9_take_138 : decode cX9_take 138 = .ok (.getfield 48, 3) := by decide +kernel
theorem dX9_take_141 : decode cX9_take 141 = .ok (.iconst 0, 1) := by decide +kernel
theorem dX9_take_142 : decode cX9_take 142 = .ok (.aload_n 0, 1) := by decide +kernel
theorem dX9_take_143 : decode cX9_take 143 = .ok (.getfield 48, 3) := by decide +kernel
theorem dX9_take_146 : decode cX9_take 146 = .ok (.iconst 0, 1) := by decide +kernel
theorem dX9_take_147 : decode cX9_take 147 = .ok (.bipush 6, 2) := by decide +kernel
theorem dX9_take_149 : decode cX9_take 149 = .ok (.invokestatic 57, 3) := by decide +kernel
theorem dX9_take_152 : decode cX9_take 152 = .ok (.aload_n 1, 1) := by decide +kernel
theorem dX9_take_153 : decode cX9_take 153 = .ok (.getfield 51, 3) := by decide +kernel
theorem dX9_take_156 : decode cX9_take 156 = .ok (.iconst 0, 1) := by decide +kernel
theorem dX9_take_157 : decode cX9_take 157 = .ok (.aload_n 0, 1) := by decide +kernel
theorem dX9_take_158 : decode cX9_take 158 = .ok (.getfield 51, 3) := by decide +kernel
theorem dX9_take_161 : decode cX9_take 161 = .ok (.iconst 0, 1) := by decide +kernel
theorem dX9_take_162 : decode cX9_take 162 = .ok (.bipush 21, 2) := by decide +kernel
theorem dX9_take_164 : decode cX9_take 164 = .ok (.invokestatic 57, 3) := by decide +kernel
theorem dX9_take_167 : decode cX9_take 167 = .ok (.aload_n 1, 1) := by decide +kernel
theorem dX9_take_168 : decode cX9_take 168 = .ok (.getfield 54, 3) := by decide +kernel
theorem dX9_take_171 : decode cX9_take 171 = .ok (.iconst 0, 1) := by decide +kernel
theorem dX9_take_172 : decode cX9_take 172 = .ok (.aload_n 0, 1) := by decide +kernel
theorem dX9_take_173 : decode cX9_take 173 = .ok (.getfield 54, 3) := by decide +kernel
theorem dX9_take_176 : decode cX9_take 176 = .ok (.iconst 0, 1) := by decide +kernel
theorem dX9_take_177 : decode cX9_take 177 = .ok (.iconst 2, 1) := by decide +kernel
theorem dX9_take_178 : decode cX9_take 178 = .ok (.invokestatic 57, 3) := by decide +kernel
theorem dX9_take_181 : decode cX9_take 181 = .ok (.return_, 1) := by decide +kernel
theorem dX9_hasMan_0 : decode cX9_hasMan 0 = .ok (.iload_n 1, 1) := by decide +kernel
theorem dX9_hasMan_1 : decode cX9_hasMan 1 = .ok (.ifCond .lt 21, 3) := by decide +kernel
theorem dX9_hasMan_4 : decode cX9_hasMan 4 = .ok (.iload_n 1, 1) := by decide +kernel
theorem dX9_hasMan_5 : decode cX9_hasMan 5 = .ok (.aload_n 0, 1) := by decide +kernel
theorem dX9_hasMan_6 : decode cX9_hasMan 6 = .ok (.getfield 7, 3) := by decide +kernel
theorem dX9_hasMan_9 : decode cX9_hasMan 9 = .ok (.if_icmp .ge 13, 3) := by decide +kernel
theorem dX9_hasMan_12 : decode cX9_hasMan 12 = .ok (.iload_n 1, 1) := by decide +kernel
theorem dX9_hasMan_13 : decode cX9_hasMan 13 = .ok (.bipush 8, 2) := by decide +kernel
theorem dX9_hasMan_15 : decode cX9_hasMan 15 = .ok (.if_icmp .ge 7, 3) := by decide +kernel
theorem dX9_hasMan_18 : decode cX9_hasMan 18 = .ok (.iconst 1, 1) := by decide +kernel
theorem dX9_hasMan_19 : decode cX9_hasMan 19 = .ok (.goto 4, 3) := by decide +kernel
theorem dX9_hasMan_22 : decode cX9_hasMan 22 = .ok (.iconst 0, 1) := by decide +kernel
theorem dX9_hasMan_23 : decode cX9_hasMan 23 = .ok (.ireturn, 1) := by decide +kernel
theorem dX9_allBits_0 : decode cX9_allBits 0 = .ok (.iconst 1, 1) := by decide +kernel
theorem dX9_allBits_1 : decode cX9_allBits 1 = .ok (.aload_n 0, 1) := by decide +kernel
theorem dX9_allBits_2 : decode cX9_allBits 2 = .ok (.getfield 7, 3) := by decide +kernel
theorem dX9_allBits_5 : decode cX9_allBits 5 = .ok (.ishl, 1) := by decide +kernel
theorem dX9_allBits_6 : decode cX9_allBits 6 = .ok (.iconst 1, 1) := by decide +kernel
theorem dX9_allBits_7 : decode cX9_allBits 7 = .ok (.isub, 1) := by decide +kernel
theorem dX9_allBits_8 : decode cX9_allBits 8 = .ok (.ireturn, 1) := by decide +kernel
theorem dX9_hasSet_0 : decode cX9_hasSet 0 = .ok (.aload_n 0, 1) := by decide +kernel
theorem dX9_hasSet_1 : decode cX9_hasSet 1 = .ok (.getfield 7, 3) := by decide +kernel
theorem dX9_hasSet_4 : decode cX9_hasSet 4 = .ok (.ifCond .le 19, 3) := by decide +kernel
theorem dX9_hasSet_7 : decode cX9_hasSet 7 = .ok (.iload_n 1, 1) := by decide +kernel
theorem dX9_hasSet_8 : decode cX9_hasSet 8 = .ok (.ifCond .lt 15, 3) := by decide +kernel
theorem dX9_hasSet_11 : decode cX9_hasSet 11 = .ok (.iload_n 1, 1) := by decide +kernel
theorem dX9_hasSet_12 : decode cX9_hasSet 12 = .ok (.aload_n 0, 1) := by decide +kernel
theorem dX9_hasSet_13 : decode cX9_hasSet 13 = .ok (.invokevirtual 63, 3) := by decide +kernel
theorem dX9_hasSet_16 : decode cX9_hasSet 16 = .ok (.if_icmp .gt 7, 3) := by decide +kernel
theorem dX9_hasSet_19 : decode cX9_hasSet 19 = .ok (.iconst 1, 1) := by decide +kernel
theorem dX9_hasSet_20 : decode cX9_hasSet 20 = .ok (.goto 4, 3) := by decide +kernel
theorem dX9_hasSet_23 : decode cX9_hasSet 23 = .ok (.iconst 0, 1) := by decide +kernel
theorem dX9_hasSet_24 : decode cX9_hasSet 24 = .ok (.ireturn, 1) := by decide +kernel
theorem dX9_share_0 : decode cX9_share 0 = .ok (.iload_n 2, 1) := by decide +kernel
theorem dX9_share_1 : decode cX9_share 1 = .ok (.iload_n 1, 1) := by decide +kernel
theorem dX9_share_2 : decode cX9_share 2 = .ok (.ishr, 1) := by decide +kernel
theorem dX9_share_3 : decode cX9_share 3 = .ok (.iconst 1, 1) := by decide +kernel
theorem dX9_share_4 : decode cX9_share 4 = .ok (.iand, 1) := by decide +kernel
theorem dX9_share_5 : decode cX9_share 5 = .ok (.ifCond .eq 12, 3) := by decide +kernel
theorem dX9_share_8 : decode cX9_share 8 = .ok (.aload_n 0, 1) := by decide +kernel
theorem dX9_share_9 : decode cX9_share 9 = .ok (.getfield 39, 3) := by decide +kernel
theorem dX9_share_12 : decode cX9_share 12 = .ok (.iload_n 1, 1) := by decide +kernel
theorem dX9_share_13 : decode cX9_share 13 = .ok (.iaload, 1) := by decide +kernel
theorem dX9_share_14 : decode cX9_share 14 = .ok (.goto 4, 3) := by decide +kernel
theorem dX9_share_17 : decode cX9_share 17 = .ok (.iconst 0, 1) := by decide +kernel
theorem dX9_share_18 : decode cX9_share 18 = .ok (.istore_n 3, 1) := by decide +kernel
theorem dX9_share_19 : decode cX9_share 19 = .ok (.iload_n 2, 1) := by decide +kernel
theorem dX9_share_20 : decode cX9_share 20 = .ok (.aload_n 0, 1) := by decide +kernel
theorem dX9_share_21 : decode cX9_share 21 = .ok (.getfield 54, 3) := by decide +kernel
theorem dX9_share_24 : decode cX9_share 24 = .ok (.iconst 0, 1) := by decide +kernel
theorem dX9_share_25 : decode cX9_share 25 = .ok (.iaload, 1) := by decide +kernel
theorem dX9_share_26 : decode cX9_share 26 = .ok (.iand, 1) := by decide +kernel
theorem dX9_share_27 : decode cX9_share 27 = .ok (.aload_n 0, 1) := by decide +kernel
theorem dX9_share_28 : decode cX9_share 28 = .ok (.getfield 54, 3) := by decide +kernel
theorem dX9_share_31 : decode cX9_share 31 = .ok (.iconst 0, 1) := by decide +kernel
theorem dX9_share_32 : decode cX9_share 32 = .ok (.iaload, 1) := by decide +kernel
theorem dX9_share_33 : decode cX9_share 33 = .ok (.if_icmp .ne 7, 3) := by decide +kernel
theorem dX9_share_36 : decode cX9_share 36 = .ok (.iconst 1, 1) := by decide +kernel
theorem dX9_share_37 : decode cX9_share 37 = .ok (.goto 4, 3) := by decide +kernel
theorem dX9_share_40 : decode cX9_share 40 = .ok (.iconst 0, 1) := by decide +kernel
theorem dX9_share_41 : decode cX9_share 41 = .ok (.istore 4, 2) := by decide +kernel
theorem dX9_share_43 : decode cX9_share 43 = .ok (.iload_n 2, 1) := by decide +kernel
theorem dX9_share_44 : decode cX9_share 44 = .ok (.aload_n 0, 1) := by decide +kernel
theorem dX9_share_45 : decode cX9_share 45 = .ok (.getfield 54, 3) := by decide +kernel
theorem dX9_share_48 : decode cX9_share 48 = .ok (.iconst 1, 1) := by decide +kernel
theorem dX9_share_49 : decode cX9_share 49 = .ok (.iaload, 1) := by decide +kernel
theorem dX9_share_50 : decode cX9_share 50 = .ok (.iand, 1) := by decide +kernel
theorem dX9_share_51 : decode cX9_share 51 = .ok (.aload_n 0, 1) := by decide +kernel
theorem dX9_share_52 : decode cX9_share 52 = .ok (.getfield 54, 3) := by decide +kernel
theorem dX9_share_55 : decode cX9_share 55 = .ok (.iconst 1, 1) := by decide +kernel
theorem dX9_share_56 : decode cX9_share 56 = .ok (.iaload, 1) := by decide +kernel
theorem dX9_share_57 : decode cX9_share 57 = .ok (.if_icmp .ne 7, 3) := by decide +kernel
theorem dX9_share_60 : decode cX9_share 60 = .ok (.iconst 1, 1) := by decide +kernel
theorem dX9_share_61 : decode cX9_share 61 = .ok (.goto 4, 3) := by decide +kernel
theorem dX9_share_64 : decode cX9_share 64 = .ok (.iconst 0, 1) := by decide +kernel
theorem dX9_share_65 : decode cX9_share 65 = .ok (.istore 5, 2) := by decide +kernel
theorem dX9_share_67 : decode cX9_share 67 = .ok (.iload 4, 2) := by decide +kernel
theorem dX9_share_69 : decode cX9_share 69 = .ok (.iload 5, 2) := by decide +kernel
theorem dX9_share_71 : decode cX9_share 71 = .ok (.if_icmp .ne 5, 3) := by decide +kernel
theorem dX9_share_74 : decode cX9_share 74 = .ok (.iload_n 3, 1) := by decide +kernel
theorem dX9_share_75 : decode cX9_share 75 = .ok (.ireturn, 1) := by decide +kernel
theorem dX9_share_76 : decode cX9_share 76 = .ok (.iload 4, 2) := by decide +kernel
theorem dX9_share_78 : decode cX9_share 78 = .ok (.ifCond .eq 7, 3) := by decide +kernel
theorem dX9_share_81 : decode cX9_share 81 = .ok (.iconst 0, 1) := by decide +kernel
theorem dX9_share_82 : decode cX9_share 82 = .ok (.goto 4, 3) := by decide +kernel
theorem dX9_share_85 : decode cX9_share 85 = .ok (.iconst 1, 1) := by decide +kernel
theorem dX9_share_86 : decode cX9_share 86 = .ok (.istore 6, 2) := by decide +kernel
theorem dX9_share_88 : decode cX9_share 88 = .ok (.aload_n 0, 1) := by decide +kernel
theorem dX9_share_89 : decode cX9_share 89 = .ok (.getfield 26, 3) := by decide +kernel
theorem dX9_share_92 : decode cX9_share 92 = .ok (.iload_n 1, 1) := by decide +kernel
theorem dX9_share_93 : decode cX9_share 93 = .ok (.iaload, 1) := by decide +kernel
theorem dX9_share_94 : decode cX9_share 94 = .ok (.iload 6, 2) := by decide +kernel
theorem dX9_share_96 : decode cX9_share 96 = .ok (.if_icmp .ne 12, 3) := by decide +kernel
theorem dX9_share_99 : decode cX9_share 99 = .ok (.iload_n 3, 1) := by decide +kernel
theorem dX9_share_100 : decode cX9_share 100 = .ok (.aload_n 0, 1) := by decide +kernel
theorem dX9_share_101 : decode cX9_share 101 = .ok (.getfield 16, 3) := by decide +kernel
theorem dX9_share_104 : decode cX9_share 104 = .ok (.isub, 1) := by decide +kernel
theorem dX9_share_105 : decode cX9_share 105 = .ok (.goto 9, 3) := by decide +kernel
theorem dX9_share_108 : decode cX9_share 108 = .ok (.iload_n 3, 1) := by decide +kernel
theorem dX9_share_109 : decode cX9_share 109 = .ok (.aload_n 0, 1) := by decide +kernel
theorem dX9_share_110 : decode cX9_share 110 = .ok (.getfield 16, 3) := by decide +kernel
theorem dX9_share_113 : decode cX9_share 113 = .ok (.iadd, 1) := by decide +kernel
theorem dX9_share_114 : decode cX9_share 114 = .ok (.ireturn, 1) := by decide +kernel
theorem dX9_isAtRest_0 : decode cX9_isAtRest 0 = .ok (.iconst 0, 1) := by decide +kernel
theorem dX9_isAtRest_1 : decode cX9_isAtRest 1 = .ok (.istore_n 2, 1) := by decide +kernel
theorem dX9_isAtRest_2 : decode cX9_isAtRest 2 = .ok (.iload_n 2, 1) := by decide +kernel
theorem dX9_isAtRest_3 : decode cX9_isAtRest 3 = .ok (.aload_n 0, 1) := by decide +kernel
theorem dX9_isAtRest_4 : decode cX9_isAtRest 4 = .ok (.getfield 7, 3) := by decide +kernel
theorem dX9_isAtRest_7 : decode cX9_isAtRest 7 = .ok (.if_icmp .ge 30, 3) := by decide +kernel
theorem dX9_isAtRest_10 : decode cX9_isAtRest 10 = .ok (.aload_n 0, 1) := by decide +kernel
theorem dX9_isAtRest_11 : decode cX9_isAtRest 11 = .ok (.iload_n 2, 1) := by decide +kernel
theorem dX9_isAtRest_12 : decode cX9_isAtRest 12 = .ok (.iload_n 1, 1) := by decide +kernel
theorem dX9_isAtRest_13 : decode cX9_isAtRest 13 = .ok (.iconst 1, 1) := by decide +kernel
theorem dX9_isAtRest_14 : decode cX9_isAtRest 14 = .ok (.iload_n 2, 1) := by decide +kernel
theorem dX9_isAtRest_15 : decode cX9_isAtRest 15 = .ok (.ishl, 1) := by decide +kernel
theorem dX9_isAtRest_16 : decode cX9_isAtRest 16 = .ok (.ixor, 1) := by decide +kernel
theorem dX9_isAtRest_17 : decode cX9_isAtRest 17 = .ok (.invokevirtual 67, 3) := by decide +kernel
theorem dX9_isAtRest_20 : decode cX9_isAtRest 20 = .ok (.aload_n 0, 1) := by decide +kernel
theorem dX9_isAtRest_21 : decode cX9_isAtRest 21 = .ok (.iload_n 2, 1) := by decide +kernel
theorem dX9_isAtRest_22 : decode cX9_isAtRest 22 = .ok (.iload_n 1, 1) := by decide +kernel
theorem dX9_isAtRest_23 : decode cX9_isAtRest 23 = .ok (.invokevirtual 67, 3) := by decide +kernel
theorem dX9_isAtRest_26 : decode cX9_isAtRest 26 = .ok (.if_icmp .le 5, 3) := by decide +kernel
theorem dX9_isAtRest_29 : decode cX9_isAtRest 29 = .ok (.iconst 0, 1) := by decide +kernel
theorem dX9_isAtRest_30 : decode cX9_isAtRest 30 = .ok (.ireturn, 1) := by decide +kernel
theorem dX9_isAtRest_31 : decode cX9_isAtRest 31 = .ok (.iinc 2 1, 3) := by decide +kernel
theorem dX9_isAtRest_34 : decode cX9_isAtRest 34 = .ok (.goto (-32), 3) := by decide +kernel
theorem dX9_isAtRest_37 : decode cX9_isAtRest 37 = .ok (.iconst 1, 1) := by decide +kernel
theorem dX9_isAtRest_38 : decode cX9_isAtRest 38 = .ok (.ireturn, 1) := by decide +kernel
theorem dX10_init_0 : decode cX10_init 0 = .ok (.aload_n 0, 1) := by decide +kernel
theorem dX10_init_1 : decode cX10_init 1 = .ok (.invokespecial 3, 3) := by decide +kernel
theorem dX10_init_4 : decode cX10_init 4 = .ok (.aload_n 0, 1) := by decide +kernel
theorem dX10_init_5 : decode cX10_init 5 = .ok (.bipush 10, 2) := by decide +kernel
theorem dX10_init_7 : decode cX10_init 7 = .ok (.newarray .int, 2) := by decide +kernel
theorem dX10_init_9 : decode cX10_init 9 = .ok (.putfield 11, 3) := by decide +kernel
theorem dX10_init_12 : decode cX10_init 12 = .ok (.aload_n 0, 1) := by decide +kernel
theorem dX10_init_13 : decode cX10_init 13 = .ok (.iconst 0, 1) := by decide +kernel
theorem dX10_init_14 : decode cX10_init 14 = .ok (.putfield 15, 3) := by decide +kernel
theorem dX10_init_17 : decode cX10_init 17 = .ok (.aload_n 0, 1) := by decide +kernel
theorem dX10_init_18 : decode cX10_init 18 = .ok (.iconst 0, 1) := by decide +kernel
theorem dX10_init_19 : decode cX10_init 19 = .ok (.putfield 19, 3) := by decide +kernel
theorem dX10_init_22 : decode cX10_init 22 = .ok (.aload_n 0, 1) := by decide +kernel
theorem dX10_init_23 : decode cX10_init 23 = .ok (.iconst 0, 1) := by decide +kernel
theorem dX10_init_24 : decode cX10_init 24 = .ok (.putfield 22, 3) := by decide +kernel
theorem dX10_init_27 : decode cX10_init 27 = .ok (.aload_n 0, 1) := by decide +kernel
theorem dX10_init_28 : decode cX10_init 28 = .ok (.aload_n 1, 1) := by decide +kernel
theorem dX10_init_29 : decode cX10_init 29 = .ok (.putfield 26, 3) := by decide +kernel
theorem dX10_init_32 : decode cX10_init 32 = .ok (.aload_n 0, 1) := by decide +kernel
theorem dX10_init_33 : decode cX10_init 33 = .ok (.aload_n 2, 1) := by decide +kernel
theorem dX10_init_34 : decode cX10_init 34 = .ok (.putfield 30, 3) := by decide +kernel
theorem dX10_init_37 : decode cX10_init 37 = .ok (.return_, 1) := by decide +kernel
theorem dX10_read_0 : decode cX10_read 0 = .ok (.aload_n 0, 1) := by decide +kernel
theorem dX10_read_1 : decode cX10_read 1 = .ok (.getfield 30, 3) := by decide +kernel
theorem dX10_read_4 : decode cX10_read 4 = .ok (.getstatic 34, 3) := by decide +kernel
theorem dX10_read_7 : decode cX10_read 7 = .ok (.bipush 8, 2) := by decide +kernel
theorem dX10_read_9 : decode cX10_read 9 = .ok (.iaload, 1) := by decide +kernel
theorem dX10_read_10 : decode cX10_read 10 = .ok (.getstatic 34, 3) := by decide +kernel
theorem dX10_read_13 : decode cX10_read 13 = .ok (.bipush 9, 2) := by decide +kernel
theorem dX10_read_15 : decode cX10_read 15 = .ok (.iaload, 1) := by decide +kernel
theorem dX10_read_16 : decode cX10_read 16 = .ok (.invokevirtual 37, 3) := by decide +kernel
theorem dX10_read_19 : decode cX10_read 19 = .ok (.aload_n 0, 1) := by decide +kernel
theorem dX10_read_20 : decode cX10_read 20 = .ok (.iconst 0, 1) := by decide +kernel
theorem dX10_read_21 : decode cX10_read 21 = .ok (.putfield 22, 3) := by decide +kernel
theorem dX10_read_24 : decode cX10_read 24 = .ok (.aload_n 0, 1) := by decide +kernel
theorem dX10_read_25 : decode cX10_read 25 = .ok (.aload_n 0, 1) := by decide +kernel
theorem dX10_read_26 : decode cX10_read 26 = .ok (.getfield 26, 3) := by decide +kernel
theorem dX10_read_29 : decode cX10_read 29 = .ok (.iconst 0, 1) := by decide +kernel
theorem dX10_read_30 : decode cX10_read 30 = .ok (.invokevirtual 43, 3) := by decide +kernel
theorem dX10_read_33 : decode cX10_read 33 = .ok (.putfield 19, 3) := by decide +kernel
theorem dX10_read_36 : decode cX10_read 36 = .ok (.iconst 0, 1) := by decide +kernel
theorem dX10_read_37 : decode cX10_read 37 = .ok (.istore_n 1, 1) := by decide +kernel
theorem dX10_read_38 : decode cX10_read 38 = .ok (.iload_n 1, 1) := by decide +kernel
theorem dX10_read_39 : decode cX10_read 39 = .ok (.sipush 240, 3) := by decide +kernel
theorem dX10_read_42 : decode cX10_read 42 = .ok (.if_icmp .gt 61, 3) := by decide +kernel
theorem dX10_read_45 : decode cX10_read 45 = .ok (.aload_n 0, 1) := by decide +kernel
theorem dX10_read_46 : decode cX10_read 46 = .ok (.invokevirtual 49, 3) := by decide +kernel
theorem dX10_read_49 : decode cX10_read 49 = .ok (.ifCond .ne 8, 3) := by decide +kernel
theorem dX10_read_52 : decode cX10_read 52 = .ok (.aload_n 0, 1) := by decide +kernel
theorem dX10_read_53 : decode cX10_read 53 = .ok (.getfield 19, 3) := by decide +kernel
theorem dX10_read_56 : decode cX10_read 56 = .ok (.ireturn, 1) := by decide +kernel
theorem dX10_read_57 : decode cX10_read 57 = .ok (.aload_n 0, 1) := by decide +kernel
theorem dX10_read_58 : decode cX10_read 58 = .ok (.getfield 19, 3) := by decide +kernel
theorem dX10_read_61 : decode cX10_read 61 = .ok (.aload_n 0, 1) := by decide +kernel
theorem dX10_read_62 : decode cX10_read 62 = .ok (.getfield 26, 3) := by decide +kernel
theorem dX10_read_65 : decode cX10_read 65 = .ok (.getfield 53, 3) := by decide +kernel
theorem dX10_read_68 : decode cX10_read 68 = .ok (.if_icmp .lt 25, 3) := by decide +kernel
theorem dX10_read_71 : decode cX10_read 71 = .ok (.aload_n 0, 1) := by decide +kernel
theorem dX10_read_72 : decode cX10_read 72 = .ok (.getfield 30, 3) := by decide +kernel
theorem dX10_read_75 : decode cX10_read 75 = .ok (.invokevirtual 56, 3) := by decide +kernel
theorem dX10_read_78 : decode cX10_read 78 = .ok (.ifCond .eq 7, 3) := by decide +kernel
theorem dX10_read_81 : decode cX10_read 81 = .ok (.iconst (-1), 1) := by decide +kernel
theorem dX10_read_82 : decode cX10_read 82 = .ok (.goto 10, 3) := by decide +kernel
theorem dX10_read_85 : decode cX10_read 85 = .ok (.aload_n 0, 1) := by decide +kernel
theorem dX10_read_86 : decode cX10_read 86 = .ok (.getfield 26, 3) := by decide +kernel
theorem dX10_read_89 : decode cX10_read 89 = .ok (.getfield 53, 3) := by decide +kernel
theorem dX10_read_92 : decode cX10_read 92 = .ok (.ireturn, 1) := by decide +kernel
theorem dX10_read_93 : decode cX10_read 93 = .ok (.aload_n 0, 1) := by decide +kernel
theorem dX10_read_94 : decode cX10_read 94 = .ok (.invokevirtual 59, 3) := by decide +kernel
theorem dX10_read_97 : decode cX10_read 97 = .ok (.iinc 1 1, 3) := by decide +kernel
theorem dX10_read_100 : decode cX10_read 100 = .ok (.goto (-62), 3) := by decide +kernel
theorem dX10_read_103 : decode cX10_read 103 = .ok (.aload_n 0, 1) := by decide +kernel
theorem dX10_read_104 : decode cX10_read 104 = .ok (.getfield 19, 3) := by decide +kernel
theorem dX10_read_107 : decode cX10_read 107 = .ok (.ireturn, 1) := by decide +kernel
theorem dX10_readClause_0 : decode cX10_readClause 0 = .ok (.aload_n 0, 1) := by decide +kernel
theorem dX10_readClause_1 : decode cX10_readClause 1 = .ok (.getfield 26, 3) := by decide +kernel
theorem dX10_readClause_4 : decode cX10_readClause 4 = .ok (.aload_n 0, 1) := by decide +kernel
theorem dX10_readClause_5 : decode cX10_readClause 5 = .ok (.getfield 19, 3) := by decide +kernel
theorem dX10_readClause_8 : decode cX10_readClause 8 = .ok (.invokevirtual 62, 3) := by decide +kernel
theorem dX10_readClause_11 : decode cX10_readClause 11 = .ok (.istore_n 1, 1) := by decide +kernel
theorem dX10_readClause_12 : decode cX10_readClause 12 = .ok (.iload_n 1, 1) := by decide +kernel
theorem dX10_readClause_13 : decode cX10_readClause 13 = .ok (.invokestatic 64, 3) := by decide +kernel
theorem dX10_readClause_16 : decode cX10_readClause 16 = .ok (.istore_n 2, 1) := by decide +kernel
theorem dX10_readClause_17 : decode cX10_readClause 17 = .ok (.iload_n 2, 1) := by decide +kernel
theorem dX10_readClause_18 : decode cX10_readClause 18 = .ok (.iconst (-1), 1) := by decide +kernel
theorem dX10_readClause_19 : decode cX10_readClause 19 = .ok (.if_icmp .eq 11, 3) := by decide +kernel
theorem dX10_readClause_22 : decode cX10_readClause 22 = .ok (.aload_n 0, 1) := by decide +kernel
theorem dX10_readClause_23 : decode cX10_readClause 23 = .ok (.iload_n 1, 1) := by decide +kernel
theorem dX10_readClause_24 : decode cX10_readClause 24 = .ok (.invokevirtual 67, 3) := by decide +kernel
theorem dX10_readClause_27 : decode cX10_readClause 27 = .ok (.ifCond .eq 5, 3) := by decide +kernel
theorem dX10_readClause_30 : decode cX10_readClause 30 = .ok (.iconst 0, 1) := by decide +kernel
theorem dX10_readClause_31 : decode cX10_readClause 31 = .ok (.ireturn, 1) := by decide +kernel
theorem dX10_readClause_32 : decode cX10_readClause 32 = .ok (.aload_n 0, 1) := by decide +kernel
theorem dX10_readClause_33 : decode cX10_readClause 33 = .ok (.invokevirtual 59, 3) := by decide +kernel
theorem dX10_readClause_36 : decode cX10_readClause 36 = .ok (.aload_n 0, 1) := by decide +kernel
theorem dX10_readClause_37 : decode cX10_readClause 37 = .ok (.iload_n 2, 1) := by decide +kernel
theorem dX10_readClause_38 : decode cX10_readClause 38 = .ok (.iload_n 2, 1) := by decide +kernel
theorem dX10_readClause_39 : decode cX10_readClause 39 = .ok (.invokestatic 71, 3) := by decide +kernel
theorem dX10_readClause_42 : decode cX10_readClause 42 = .ok (.invokevirtual 74, 3) := by decide +kernel
theorem dX10_readClause_45 : decode cX10_readClause 45 = .ok (.ifCond .ne 5, 3) := by decide +kernel
theorem dX10_readClause_48 : decode cX10_readClause 48 = .ok (.iconst 0, 1) := by decide +kernel
theorem dX10_readClause_49 : decode cX10_readClause 49 = .ok (.ireturn, 1) := by decide +kernel
theorem dX10_readClause_50 : decode cX10_readClause 50 = .ok (.aload_n 0, 1) := by decide +kernel
theorem dX10_readClause_51 : decode cX10_readClause 51 = .ok (.iload_n 1, 1) := by decide +kernel
theorem dX10_readClause_52 : decode cX10_readClause 52 = .ok (.invokevirtual 78, 3) := by decide +kernel
theorem dX10_readClause_55 : decode cX10_readClause 55 = .ok (.iconst 1, 1) := by decide +kernel
theorem dX10_readClause_56 : decode cX10_readClause 56 = .ok (.ireturn, 1) := by decide +kernel
theorem dX10_firstItemOf_0 : decode cX10_firstItemOf 0 = .ok (.iload_n 0, 1) := by decide +kernel
theorem dX10_firstItemOf_1 : decode cX10_firstItemOf 1 = .ok (.bipush 109, 2) := by decide +kernel
theorem dX10_firstItemOf_3 : decode cX10_firstItemOf 3 = .ok (.if_icmp .ne 5, 3) := by decide +kernel
theorem dX10_firstItemOf_6 : decode cX10_firstItemOf 6 = .ok (.iconst 0, 1) := by decide +kernel
theorem dX10_firstItemOf_7 : decode cX10_firstItemOf 7 = .ok (.ireturn, 1) := by decide +kernel
theorem dX10_firstItemOf_8 : decode cX10_firstItemOf 8 = .ok (.iload_n 0, 1) := by decide +kernel
theorem dX10_firstItemOf_9 : decode cX10_firstItemOf 9 = .ok (.bipush 111, 2) := by decide +kernel
theorem dX10_firstItemOf_11 : decode cX10_firstItemOf 11 = .ok (.if_icmp .ne 6, 3) := by decide +kernel
theorem dX10_firstItemOf_14 : decode cX10_firstItemOf 14 = .ok (.bipush 6, 2) := by decide +kernel
theorem dX10_firstItemOf_16 : decode cX10_firstItemOf 16 = .ok (.ireturn, 1) := by decide +kernel
theorem dX10_firstItemOf_17 : decode cX10_firstItemOf 17 = .ok (.iload_n 0, 1) := by decide +kernel
theorem dX10_firstItemOf_18 : decode cX10_firstItemOf 18 = .ok (.bipush 119, 2) := by decide +kernel
theorem dX10_firstItemOf_20 : decode cX10_firstItemOf 20 = .ok (.if_icmp .ne 8, 3) := by decide +kernel
theorem dX10_firstItemOf_23 : decode cX10_firstItemOf 23 = .ok (.bipush 8, 2) := by decide +kernel
theorem dX10_firstItemOf_25 : decode cX10_firstItemOf 25 = .ok (.goto 4, 3) := by decide +kernel
theorem dX10_firstItemOf_28 : decode cX10_firstItemOf 28 = .ok (.iconst (-1), 1) := by decide +kernel
theorem dX10_firstItemOf_29 : decode cX10_firstItemOf 29 = .ok (.ireturn, 1) := by decide +kernel
theorem dX10_endOfItems_0 : decode cX10_endOfItems 0 = .ok (.iload_n 0, 1) := by decide +kernel
theorem dX10_endOfItems_1 : decode cX10_endOfItems 1 = .ok (.ifCond .ne 6, 3) := by decide +kernel
theorem dX10_endOfItems_4 : decode cX10_endOfItems 4 = .ok (.bipush 6, 2) := by decide +kernel
theorem dX10_endOfItems_6 : decode cX10_endOfItems 6 = .ok (.ireturn, 1) := by decide +kernel
theorem dX10_endOfItems_7 : decode cX10_endOfItems 7 = .ok (.iload_n 0, 1) := by decide +kernel
theorem dX10_endOfItems_8 : decode cX10_endOfItems 8 = .ok (.bipush 6, 2) := by decide +kernel
theorem dX10_endOfItems_10 : decode cX10_endOfItems 10 = .ok (.if_icmp .ne 8, 3) := by decide +kernel
theorem dX10_endOfItems_13 : decode cX10_endOfItems 13 = .ok (.bipush 8, 2) := by decide +kernel
theorem dX10_endOfItems_15 : decode cX10_endOfItems 15 = .ok (.goto 5, 3) := by decide +kernel
theorem dX10_endOfItems_18 : decode cX10_endOfItems 18 = .ok (.bipush 10, 2) := by decide +kernel
theorem dX10_endOfItems_20 : decode cX10_endOfItems 20 = .ok (.ireturn, 1) := by decide +kernel
theorem dX10_isOneTooMany_0 : decode cX10_isOneTooMany 0 = .ok (.iload_n 1, 1) := by decide +kernel
theorem dX10_isOneTooMany_1 : decode cX10_isOneTooMany 1 = .ok (.bipush 109, 2) := by decide +kernel
theorem dX10_isOneTooMany_3 : decode cX10_isOneTooMany 3 = .ok (.if_icmp .ne 21, 3) := by decide +kernel
theorem dX10_isOneTooMany_6 : decode cX10_isOneTooMany 6 = .ok (.aload_n 0, 1) := by decide +kernel
theorem dX10_isOneTooMany_7 : decode cX10_isOneTooMany 7 = .ok (.getfield 30, 3) := by decide +kernel
theorem dX10_isOneTooMany_10 : decode cX10_isOneTooMany 10 = .ok (.getfield 82, 3) := by decide +kernel
theorem dX10_isOneTooMany_13 : decode cX10_isOneTooMany 13 = .ok (.bipush 8, 2) := by decide +kernel
theorem dX10_isOneTooMany_15 : decode cX10_isOneTooMany 15 = .ok (.if_icmp .lt 7, 3) := by decide +kernel
theorem dX10_isOneTooMany_18 : decode cX10_isOneTooMany 18 = .ok (.iconst 1, 1) := by decide +kernel
theorem dX10_isOneTooMany_19 : decode cX10_isOneTooMany 19 = .ok (.goto 4, 3) := by decide +kernel
theorem dX10_isOneTooMany_22 : decode cX10_isOneTooMany 22 = .ok (.iconst 0, 1) := by decide +kernel
theorem dX10_isOneTooMany_23 : decode cX10_isOneTooMany 23 = .ok (.ireturn, 1) := by decide +kernel
theorem dX10_isOneTooMany_24 : decode cX10_isOneTooMany 24 = .ok (.iload_n 1, 1) := by decide +kernel
theorem dX10_isOneTooMany_25 : decode cX10_isOneTooMany 25 = .ok (.bipush 111, 2) := by decide +kernel
theorem dX10_isOneTooMany_27 : decode cX10_isOneTooMany 27 = .ok (.if_icmp .ne 23, 3) := by decide +kernel
theorem dX10_isOneTooMany_30 : decode cX10_isOneTooMany 30 = .ok (.aload_n 0, 1) := by decide +kernel
theorem dX10_isOneTooMany_31 : decode cX10_isOneTooMany 31 = .ok (.getfield 30, 3) := by decide +kernel
theorem dX10_isOneTooMany_34 : decode cX10_isOneTooMany 34 = .ok (.getfield 85, 3) := by decide +kernel
theorem dX10_isOneTooMany_37 : decode cX10_isOneTooMany 37 = .ok (.bipush 6, 2) := by decide +kernel
theorem dX10_isOneTooMany_39 : decode cX10_isOneTooMany 39 = .ok (.if_icmp .lt 7, 3) := by decide +kernel
theorem dX10_isOneTooMany_42 : decode cX10_isOneTooMany 42 = .ok (.iconst 1, 1) := by decide +kernel
theorem dX10_isOneTooMany_43 : decode cX10_isOneTooMany 43 = .ok (.goto 11, 3) := by decide +kernel
theorem dX10_isOneTooMany_46 : decode cX10_isOneTooMany 46 = .ok (.iconst 0, 1) := by decide +kernel
theorem dX10_isOneTooMany_47 : decode cX10_isOneTooMany 47 = .ok (.goto 7, 3) := by decide +kernel
theorem dX10_isOneTooMany_50 : decode cX10_isOneTooMany 50 = .ok (.aload_n 0, 1) := by decide +kernel
theorem dX10_isOneTooMany_51 : decode cX10_isOneTooMany 51 = .ok (.getfield 22, 3) := by decide +kernel
theorem dX10_isOneTooMany_54 : decode cX10_isOneTooMany 54 = .ok (.ireturn, 1) := by decide +kernel
theorem dX10_keepClause_0 : decode cX10_keepClause 0 = .ok (.iload_n 1, 1) := by decide +kernel
theorem dX10_keepClause_1 : decode cX10_keepClause 1 = .ok (.bipush 109, 2) := by decide +kernel
theorem dX10_keepClause_3 : decode cX10_keepClause 3 = .ok (.if_icmp .ne 17, 3) := by decide +kernel
theorem dX10_keepClause_6 : decode cX10_keepClause 6 = .ok (.aload_n 0, 1) := by decide +kernel
theorem dX10_keepClause_7 : decode cX10_keepClause 7 = .ok (.getfield 30, 3) := by decide +kernel
theorem dX10_keepClause_10 : decode cX10_keepClause 10 = .ok (.aload_n 0, 1) := by decide +kernel
theorem dX10_keepClause_11 : decode cX10_keepClause 11 = .ok (.getfield 11, 3) := by decide +kernel
theorem dX10_keepClause_14 : decode cX10_keepClause 14 = .ok (.invokevirtual 88, 3) := by decide +kernel
theorem dX10_keepClause_17 : decode cX10_keepClause 17 = .ok (.goto 66, 3) := by decide +kernel
theorem dX10_keepClause_20 : decode cX10_keepClause 20 = .ok (.iload_n 1, 1) := by decide +kernel
theorem dX10_keepClause_21 : decode cX10_keepClause 21 = .ok (.bipush 111, 2) := by decide +kernel
theorem dX10_keepClause_23 : decode cX10_keepClause 23 = .ok (.if_icmp .ne 27, 3) := by decide +kernel
theorem dX10_keepClause_26 : decode cX10_keepClause 26 = .ok (.aload_n 0, 1) := by decide +kernel
theorem dX10_keepClause_27 : decode cX10_keepClause 27 = .ok (.getfield 30, 3) := by decide +kernel
theorem dX10_keepClause_30 : decode cX10_keepClause 30 = .ok (.aload_n 0, 1) := by decide +kernel
theorem dX10_keepClause_31 : decode cX10_keepClause 31 = .ok (.getfield 11, 3) := by decide +kernel
theorem dX10_keepClause_34 : decode cX10_keepClause 34 = .ok (.bipush 6, 2) := by decide +kernel
theorem dX10_keepClause_36 : decode cX10_keepClause 36 = .ok (.iaload, 1) := by decide +kernel
theorem dX10_keepClause_37 : decode cX10_keepClause 37 = .ok (.aload_n 0, 1) := by decide +kernel
theorem dX10_keepClause_38 : decode cX10_keepClause 38 = .ok (.getfield 11, 3) := by decide +kernel
theorem dX10_keepClause_41 : decode cX10_keepClause 41 = .ok (.bipush 7, 2) := by decide +kernel
theorem dX10_keepClause_43 : decode cX10_keepClause 43 = .ok (.iaload, 1) := by decide +kernel
theorem dX10_keepClause_44 : decode cX10_keepClause 44 = .ok (.invokevirtual 92, 3) := by decide +kernel
theorem dX10_keepClause_47 : decode cX10_keepClause 47 = .ok (.goto 36, 3) := by decide +kernel
theorem dX10_keepClause_50 : decode cX10_keepClause 50 = .ok (.aload_n 0, 1) := by decide +kernel
theorem dX10_keepClause_51 : decode cX10_keepClause 51 = .ok (.getfield 30, 3) := by decide +kernel
theorem dX10_keepClause_54 : decode cX10_keepClause 54 = .ok (.aload_n 0, 1) := by decide +kernel
theorem dX10_keepClause_55 : decode cX10_keepClause 55 = .ok (.getfield 11, 3) := by decide +kernel
theorem dX10_keepClause_58 : decode cX10_keepClause 58 = .ok (.bipush 8, 2) := by decide +kernel
theorem dX10_keepClause_60 : decode cX10_keepClause 60 = .ok (.iaload, 1) := by decide +kernel
theorem dX10_keepClause_61 : decode cX10_keepClause 61 = .ok (.putfield 95, 3) := by decide +kernel
theorem dX10_keepClause_64 : decode cX10_keepClause 64 = .ok (.aload_n 0, 1) := by decide +kernel
theorem dX10_keepClause_65 : decode cX10_keepClause 65 = .ok (.getfield 30, 3) := by decide +kernel
theorem dX10_keepClause_68 : decode cX10_keepClause 68 = .ok (.aload_n 0, 1) := by decide +kernel
theorem dX10_keepClause_69 : decode cX10_keepClause 69 = .ok (.getfield 11, 3) := by decide +kernel
theorem dX10_keepClause_72 : decode cX10_keepClause 72 = .ok (.bipush 9, 2) := by decide +kernel
theorem dX10_keepClause_74 : decode cX10_keepClause 74 = .ok (.iaload, 1) := by decide +kernel
theorem dX10_keepClause_75 : decode cX10_keepClause 75 = .ok (.putfield 98, 3) := by decide +kernel
theorem dX10_keepClause_78 : decode cX10_keepClause 78 = .ok (.aload_n 0, 1) := by decide +kernel
theorem dX10_keepClause_79 : decode cX10_keepClause 79 = .ok (.iconst 1, 1) := by decide +kernel
theorem dX10_keepClause_80 : decode cX10_keepClause 80 = .ok (.putfield 22, 3) := by decide +kernel
theorem dX10_keepClause_83 : decode cX10_keepClause 83 = .ok (.return_, 1) := by decide +kernel
theorem dX10_readItems_0 : decode cX10_readItems 0 = .ok (.getstatic 34, 3) := by decide +kernel
theorem dX10_readItems_3 : decode cX10_readItems 3 = .ok (.iconst 0, 1) := by decide +kernel
theorem dX10_readItems_4 : decode cX10_readItems 4 = .ok (.aload_n 0, 1) := by decide +kernel
theorem dX10_readItems_5 : decode cX10_readItems 5 = .ok (.getfield 11, 3) := by decide +kernel
theorem dX10_readItems_8 : decode cX10_readItems 8 = .ok (.iconst 0, 1) := by decide +kernel
theorem dX10_readItems_9 : decode cX10_readItems 9 = .ok (.bipush 10, 2) := by decide +kernel
theorem dX10_readItems_11 : decode cX10_readItems 11 = .ok (.invokestatic 101, 3) := by decide +kernel
theorem dX10_readItems_14 : decode cX10_readItems 14 = .ok (.aload_n 0, 1) := by decide +kernel
theorem dX10_readItems_15 : decode cX10_readItems 15 = .ok (.iconst 0, 1) := by decide +kernel
theorem dX10_readItems_16 : decode cX10_readItems 16 = .ok (.putfield 15, 3) := by decide +kernel
theorem dX10_readItems_19 : decode cX10_readItems 19 = .ok (.iconst 0, 1) := by decide +kernel
theorem dX10_readItems_20 : decode cX10_readItems 20 = .ok (.istore_n 3, 1) := by decide +kernel
theorem dX10_readItems_21 : decode cX10_readItems 21 = .ok (.iload_n 3, 1) := by decide +kernel
theorem dX10_readItems_22 : decode cX10_readItems 22 = .ok (.sipush 240, 3) := by decide +kernel
theorem dX10_readItems_25 : decode cX10_readItems 25 = .ok (.if_icmp .gt 101, 3) := by decide +kernel
theorem dX10_readItems_28 : decode cX10_readItems 28 = .ok (.aload_n 0, 1) := by decide +kernel
theorem dX10_readItems_29 : decode cX10_readItems 29 = .ok (.getfield 26, 3) := by decide +kernel
theorem dX10_readItems_32 : decode cX10_readItems 32 = .ok (.aload_n 0, 1) := by decide +kernel
theorem dX10_readItems_33 : decode cX10_readItems 33 = .ok (.getfield 19, 3) := by decide +kernel
theorem dX10_readItems_36 : decode cX10_readItems 36 = .ok (.invokevirtual 62, 3) := by decide +kernel
theorem dX10_readItems_39 : decode cX10_readItems 39 = .ok (.istore 4, 2) := by decide +kernel
theorem dX10_readItems_41 : decode cX10_readItems 41 = .ok (.iload 4, 2) := by decide +kernel
theorem dX10_readItems_43 : decode cX10_readItems 43 = .ok (.iconst (-1), 1) := by decide +kernel
theorem dX10_readItems_44 : decode cX10_readItems 44 = .ok (.if_icmp .eq 10, 3) := by decide +kernel
theorem dX10_readItems_47 : decode cX10_readItems 47 = .ok (.iload 4, 2) := by decide +kernel
theorem dX10_readItems_49 : decode cX10_readItems 49 = .ok (.bipush 59, 2) := by decide +kernel
theorem dX10_readItems_51 : decode cX10_readItems 51 = .ok (.if_icmp .ne 5, 3) := by decide +kernel
theorem dX10_readItems_54 : decode cX10_readItems 54 = .ok (.iconst 1, 1) := by decide +kernel
theorem dX10_readItems_55 : decode cX10_readItems 55 = .ok (.ireturn, 1) := by decide +kernel
theorem dX10_readItems_56 : decode cX10_readItems 56 = .ok (.ldc 107, 2) := by decide +kernel
theorem dX10_readItems_58 : decode cX10_readItems 58 = .ok (.iload 4, 2) := by decide +kernel
theorem dX10_readItems_60 : decode cX10_readItems 60 = .ok (.i2c, 1) := by decide +kernel
theorem dX10_readItems_61 : decode cX10_readItems 61 = .ok (.invokevirtual 109, 3) := by decide +kernel
theorem dX10_readItems_64 : decode cX10_readItems 64 = .ok (.istore 5, 2) := by decide +kernel
theorem dX10_readItems_66 : decode cX10_readItems 66 = .ok (.iload 5, 2) := by decide +kernel
theorem dX10_readItems_68 : decode cX10_readItems 68 = .ok (.iload_n 1, 1) := by decide +kernel
theorem dX10_readItems_69 : decode cX10_readItems 69 = .ok (.if_icmp .lt 21, 3) := by decide +kernel
theorem dX10_readItems_72 : decode cX10_readItems 72 = .ok (.iload 5, 2) := by decide +kernel
theorem dX10_readItems_74 : decode cX10_readItems 74 = .ok (.iload_n 2, 1) := by decide +kernel
theorem dX10_readItems_75 : decode cX10_readItems 75 = .ok (.if_icmp .ge 15, 3) := by decide +kernel
theorem dX10_readItems_78 : decode cX10_readItems 78 = .ok (.aload_n 0, 1) := by decide +kernel
theorem dX10_readItems_79 : decode cX10_readItems 79 = .ok (.getfield 15, 3) := by decide +kernel
theorem dX10_readItems_82 : decode cX10_readItems 82 = .ok (.iload 5, 2) := by decide +kernel
theorem dX10_readItems_84 : decode cX10_readItems 84 = .ok (.ishr, 1) := by decide +kernel
theorem dX10_readItems_85 : decode cX10_readItems 85 = .ok (.iconst 1, 1) := by decide +kernel
theorem dX10_readItems_86 : decode cX10_readItems 86 = .ok (.iand, 1) := by decide +kernel
theorem dX10_readItems_87 : decode cX10_readItems 87 = .ok (.ifCond .eq 5, 3) := by decide +kernel
theorem dX10_readItems_90 : decode cX10_readItems 90 = .ok (.iconst 0, 1) := by decide +kernel
theorem dX10_readItems_91 : decode cX10_readItems 91 = .ok (.ireturn, 1) := by decide +kernel
theorem dX10_readItems_92 : decode cX10_readItems 92 = .ok (.aload_n 0, 1) := by decide +kernel
theorem dX10_readItems_93 : decode cX10_readItems 93 = .ok (.dup, 1) := by decide +kernel
theorem dX10_readItems_94 : decode cX10_readItems 94 = .ok (.getfield 15, 3) := by decide +kernel
theorem dX10_readItems_97 : decode cX10_readItems 97 = .ok (.iconst 1, 1) := by decide +kernel
theorem dX10_readItems_98 : decode cX10_readItems 98 = .ok (.iload 5, 2) := by decide +kernel
theorem dX10_readItems_100 : decode cX10_readItems 100 = .ok (.ishl, 1) := by decide +kernel
theorem dX10_readItems_101 : decode cX10_readItems 101 = .ok (.ior, 1) := by decide +kernel
theorem dX10_readItems_102 : decode cX10_readItems 102 = .ok (.putfield 15, 3) := by decide +kernel
theorem dX10_readItems_105 : decode cX10_readItems 105 = .ok (.aload_n 0, 1) := by decide +kernel
theorem dX10_readItems_106 : decode cX10_readItems 106 = .ok (.invokevirtual 59, 3) := by decide +kernel
theorem dX10_readItems_109 : decode cX10_readItems 109 = .ok (.aload_n 0, 1) := by decide +kernel
theorem dX10_readItems_110 : decode cX10_readItems 110 = .ok (.iload 5, 2) := by decide +kernel
theorem dX10_readItems_112 : decode cX10_readItems 112 = .ok (.invokevirtual 114, 3) := by decide +kernel
theorem dX10_readItems_115 : decode cX10_readItems 115 = .ok (.ifCond .ne 5, 3) := by decide +kernel
theorem dX10_readItems_118 : decode cX10_readItems 118 = .ok (.iconst 0, 1) := by decide +kernel
theorem dX10_readItems_119 : decode cX10_readItems 119 = .ok (.ireturn, 1) := by decide +kernel
theorem dX10_readItems_120 : decode cX10_readItems 120 = .ok (.iinc 3 1, 3) := by decide +kernel
theorem dX10_readItems_123 : decode cX10_readItems 123 = .ok (.goto (-102), 3) := by decide +kernel
theorem dX10_readItems_126 : decode cX10_readItems 126 = .ok (.iconst 0, 1) := by decide +kernel
theorem dX10_readItems_127 : decode cX10_readItems 127 = .ok (.ireturn, 1) := by decide +kernel
theorem dX10_readNumber_0 : decode cX10_readNumber 0 = .ok (.aload_n 0, 1) := by decide +kernel
theorem dX10_readNumber_1 : decode cX10_readNumber 1 = .ok (.getfield 26, 3) := by decide +kernel
theorem dX10_readNumber_4 : decode cX10_readNumber 4 = .ok (.aload_n 0, 1) := by decide +kernel
theorem dX10_readNumber_5 : decode cX10_readNumber 5 = .ok (.getfield 19, 3) := by decide +kernel
theorem dX10_readNumber_8 : decode cX10_readNumber 8 = .ok (.invokevirtual 117, 3) := by decide +kernel
theorem dX10_readNumber_11 : decode cX10_readNumber 11 = .ok (.ifCond .eq 13, 3) := by decide +kernel
theorem dX10_readNumber_14 : decode cX10_readNumber 14 = .ok (.iload_n 1, 1) := by decide +kernel
theorem dX10_readNumber_15 : decode cX10_readNumber 15 = .ok (.ifCond .lt 9, 3) := by decide +kernel
theorem dX10_readNumber_18 : decode cX10_readNumber 18 = .ok (.iload_n 1, 1) := by decide +kernel
theorem dX10_readNumber_19 : decode cX10_readNumber 19 = .ok (.bipush 10, 2) := by decide +kernel
theorem dX10_readNumber_21 : decode cX10_readNumber 21 = .ok (.if_icmp .lt 5, 3) := by decide +kernel
theorem dX10_readNumber_24 : decode cX10_readNumber 24 = .ok (.iconst 0, 1) := by decide +kernel
theorem dX10_readNumber_25 : decode cX10_readNumber 25 = .ok (.ireturn, 1) := by decide +kernel
theorem dX10_readNumber_26 : decode cX10_readNumber 26 = .ok (.aload_n 0, 1) := by decide +kernel
theorem dX10_readNumber_27 : decode cX10_readNumber 27 = .ok (.getfield 26, 3) := by decide +kernel
theorem dX10_readNumber_30 : decode cX10_readNumber 30 = .ok (.aload_n 0, 1) := by decide +kernel
theorem dX10_readNumber_31 : decode cX10_readNumber 31 = .ok (.getfield 19, 3) := by decide +kernel
theorem dX10_readNumber_34 : decode cX10_readNumber 34 = .ok (.invokevirtual 62, 3) := by decide +kernel
theorem dX10_readNumber_37 : decode cX10_readNumber 37 = .ok (.bipush 48, 2) := by decide +kernel
theorem dX10_readNumber_39 : decode cX10_readNumber 39 = .ok (.isub, 1) := by decide +kernel
theorem dX10_readNumber_40 : decode cX10_readNumber 40 = .ok (.istore_n 2, 1) := by decide +kernel
theorem dX10_readNumber_41 : decode cX10_readNumber 41 = .ok (.aload_n 0, 1) := by decide +kernel
theorem dX10_readNumber_42 : decode cX10_readNumber 42 = .ok (.getfield 26, 3) := by decide +kernel
theorem dX10_readNumber_45 : decode cX10_readNumber 45 = .ok (.aload_n 0, 1) := by decide +kernel
theorem dX10_readNumber_46 : decode cX10_readNumber 46 = .ok (.getfield 19, 3) := by decide +kernel
theorem dX10_readNumber_49 : decode cX10_readNumber 49 = .ok (.iconst 1, 1) := by decide +kernel
theorem dX10_readNumber_50 : decode cX10_readNumber 50 = .ok (.iadd, 1) := by decide +kernel
theorem dX10_readNumber_51 : decode cX10_readNumber 51 = .ok (.invokevirtual 117, 3) := by decide +kernel
theorem dX10_readNumber_54 : decode cX10_readNumber 54 = .ok (.ifCond .eq 33, 3) := by decide +kernel
theorem dX10_readNumber_57 : decode cX10_readNumber 57 = .ok (.aload_n 0, 1) := by decide +kernel
theorem dX10_readNumber_58 : decode cX10_readNumber 58 = .ok (.dup, 1) := by decide +kernel
theorem dX10_readNumber_59 : decode cX10_readNumber 59 = .ok (.getfield 19, 3) := by decide +kernel
theorem dX10_readNumber_62 : decode cX10_readNumber 62 = .ok (.iconst 1, 1) := by decide +kernel
theorem dX10_readNumber_63 : decode cX10_readNumber 63 = .ok (.iadd, 1) := by decide +kernel
theorem dX10_readNumber_64 : decode cX10_readNumber 64 = .ok (.putfield 19, 3) := by decide +kernel
theorem dX10_readNumber_67 : decode cX10_readNumber 67 = .ok (.iload_n 2, 1) := by decide +kernel
theorem dX10_readNumber_68 : decode cX10_readNumber 68 = .ok (.bipush 10, 2) := by decide +kernel
theorem dX10_readNumber_70 : decode cX10_readNumber 70 = .ok (.imul, 1) := by decide +kernel
theorem dX10_readNumber_71 : decode cX10_readNumber 71 = .ok (.aload_n 0, 1) := by decide +kernel
theorem dX10_readNumber_72 : decode cX10_readNumber 72 = .ok (.getfield 26, 3) := by decide +kernel
theorem dX10_readNumber_75 : decode cX10_readNumber 75 = .ok (.aload_n 0, 1) := by decide +kernel
theorem dX10_readNumber_76 : decode cX10_readNumber 76 = .ok (.getfield 19, 3) := by decide +kernel
theorem dX10_readNumber_79 : decode cX10_readNumber 79 = .ok (.invokevirtual 62, 3) := by decide +kernel
theorem dX10_readNumber_82 : decode cX10_readNumber 82 = .ok (.iadd, 1) := by decide +kernel
theorem dX10_readNumber_83 : decode cX10_readNumber 83 = .ok (.bipush 48, 2) := by decide +kernel
theorem dX10_readNumber_85 : decode cX10_readNumber 85 = .ok (.isub, 1) := by decide +kernel
theorem dX10_readNumber_86 : decode cX10_readNumber 86 = .ok (.istore_n 2, 1) := by decide +kernel
theorem dX10_readNumber_87 : decode cX10_readNumber 87 = .ok (.aload_n 0, 1) := by decide +kernel
theorem dX10_readNumber_88 : decode cX10_readNumber 88 = .ok (.getfield 26, 3) := by decide +kernel
theorem dX10_readNumber_91 : decode cX10_readNumber 91 = .ok (.aload_n 0, 1) := by decide +kernel
theorem dX10_readNumber_92 : decode cX10_readNumber 92 = .ok (.getfield 19, 3) := by decide +kernel
theorem dX10_readNumber_95 : decode cX10_readNumber 95 = .ok (.iconst 1, 1) := by decide +kernel
theorem dX10_readNumber_96 : decode cX10_readNumber 96 = .ok (.iadd, 1) := by decide +kernel
theorem dX10_readNumber_97 : decode cX10_readNumber 97 = .ok (.invokevirtual 117, 3) := by decide +kernel
theorem dX10_readNumber_100 : decode cX10_readNumber 100 = .ok (.ifCond .eq 15, 3) := by decide +kernel
theorem dX10_readNumber_103 : decode cX10_readNumber 103 = .ok (.aload_n 0, 1) := by decide +kernel
theorem dX10_readNumber_104 : decode cX10_readNumber 104 = .ok (.dup, 1) := by decide +kernel
theorem dX10_readNumber_105 : decode cX10_readNumber 105 = .ok (.getfield 19, 3) := by decide +kernel
theorem dX10_readNumber_108 : decode cX10_readNumber 108 = .ok (.iconst 1, 1) := by decide +kernel
theorem dX10_readNumber_109 : decode cX10_readNumber 109 = .ok (.iadd, 1) := by decide +kernel
theorem dX10_readNumber_110 : decode cX10_readNumber 110 = .ok (.putfield 19, 3) := by decide +kernel
theorem dX10_readNumber_113 : decode cX10_readNumber 113 = .ok (.iconst 0, 1) := by decide +kernel
theorem dX10_readNumber_114 : decode cX10_readNumber 114 = .ok (.ireturn, 1) := by decide +kernel
theorem dX10_readNumber_115 : decode cX10_readNumber 115 = .ok (.iload_n 2, 1) := by decide +kernel
theorem dX10_readNumber_116 : decode cX10_readNumber 116 = .ok (.getstatic 120, 3) := by decide +kernel
theorem dX10_readNumber_119 : decode cX10_readNumber 119 = .ok (.iload_n 1, 1) := by decide +kernel
theorem dX10_readNumber_120 : decode cX10_readNumber 120 = .ok (.iaload, 1) := by decide +kernel
theorem dX10_readNumber_121 : decode cX10_readNumber 121 = .ok (.if_icmp .lt 12, 3) := by decide +kernel
theorem dX10_readNumber_124 : decode cX10_readNumber 124 = .ok (.iload_n 2, 1) := by decide +kernel
theorem dX10_readNumber_125 : decode cX10_readNumber 125 = .ok (.getstatic 123, 3) := by decide +kernel
theorem dX10_readNumber_128 : decode cX10_readNumber 128 = .ok (.iload_n 1, 1) := by decide +kernel
theorem dX10_readNumber_129 : decode cX10_readNumber 129 = .ok (.iaload, 1) := by decide +kernel
theorem dX10_readNumber_130 : decode cX10_readNumber 130 = .ok (.if_icmp .le 5, 3) := by decide +kernel
theorem dX10_readNumber_133 : decode cX10_readNumber 133 = .ok (.iconst 0, 1) := by decide +kernel
theorem dX10_readNumber_134 : decode cX10_readNumber 134 = .ok (.ireturn, 1) := by decide +kernel
theorem dX10_readNumber_135 : decode cX10_readNumber 135 = .ok (.aload_n 0, 1) := by decide +kernel
theorem dX10_readNumber_136 : decode cX10_readNumber 136 = .ok (.getfield 11, 3) := by decide +kernel
theorem dX10_readNumber_139 : decode cX10_readNumber 139 = .ok (.iload_n 1, 1) := by decide +kernel
theorem dX10_readNumber_140 : decode cX10_readNumber 140 = .ok (.iload_n 2, 1) := by decide +kernel
theorem dX10_readNumber_141 : decode cX10_readNumber 141 = .ok (.iastore, 1) := by decide +kernel
theorem dX10_readNumber_142 : decode cX10_readNumber 142 = .ok (.aload_n 0, 1) := by decide +kernel
theorem dX10_readNumber_143 : decode cX10_readNumber 143 = .ok (.invokevirtual 59, 3) := by decide +kernel
theorem dX10_readNumber_146 : decode cX10_readNumber 146 = .ok (.iconst 1, 1) := by decide +kernel
theorem dX10_readNumber_147 : decode cX10_readNumber 147 = .ok (.ireturn, 1) := by decide +kernel
theorem dX10_goOn_0 : decode cX10_goOn 0 = .ok (.aload_n 0, 1) := by decide +kernel
theorem dX10_goOn_1 : decode cX10_goOn 1 = .ok (.aload_n 0, 1) := by decide +kernel
theorem dX10_goOn_2 : decode cX10_goOn 2 = .ok (.getfield 26, 3) := by decide +kernel
theorem dX10_goOn_5 : decode cX10_goOn 5 = .ok (.aload_n 0, 1) := by decide +kernel
theorem dX10_goOn_6 : decode cX10_goOn 6 = .ok (.getfield 19, 3) := by decide +kernel
theorem dX10_goOn_9 : decode cX10_goOn 9 = .ok (.iconst 1, 1) := by decide +kernel
theorem dX10_goOn_10 : decode cX10_goOn 10 = .ok (.iadd, 1) := by decide +kernel
theorem dX10_goOn_11 : decode cX10_goOn 11 = .ok (.invokevirtual 43, 3) := by decide +kernel
theorem dX10_goOn_14 : decode cX10_goOn 14 = .ok (.putfield 19, 3) := by decide +kernel
theorem dX10_goOn_17 : decode cX10_goOn 17 = .ok (.return_, 1) := by decide +kernel
theorem dX11_init_0 : decode cX11_init 0 = .ok (.aload_n 0, 1) := by decide +kernel
theorem dX11_init_1 : decode cX11_init 1 = .ok (.invokespecial 1, 3) := by decide +kernel
theorem dX11_init_4 : decode cX11_init 4 = .ok (.aload_n 0, 1) := by decide +kernel
theorem dX11_init_5 : decode cX11_init 5 = .ok (.new 7, 3) := by decide +kernel
theorem dX11_init_8 : decode cX11_init 8 = .ok (.dup, 1) := by decide +kernel
theorem dX11_init_9 : decode cX11_init 9 = .ok (.invokespecial 9, 3) := by decide +kernel
theorem dX11_init_12 : decode cX11_init 12 = .ok (.putfield 10, 3) := by decide +kernel
theorem dX11_init_15 : decode cX11_init 15 = .ok (.aload_n 0, 1) := by decide +kernel
theorem dX11_init_16 : decode cX11_init 16 = .ok (.new 16, 3) := by decide +kernel
theorem dX11_init_19 : decode cX11_init 19 = .ok (.dup, 1) := by decide +kernel
theorem dX11_init_20 : decode cX11_init 20 = .ok (.invokespecial 18, 3) := by decide +kernel
theorem dX11_init_23 : decode cX11_init 23 = .ok (.putfield 19, 3) := by decide +kernel
theorem dX11_init_26 : decode cX11_init 26 = .ok (.aload_n 0, 1) := by decide +kernel
theorem dX11_init_27 : decode cX11_init 27 = .ok (.new 16, 3) := by decide +kernel
theorem dX11_init_30 : decode cX11_init 30 = .ok (.dup, 1) := by decide +kernel
theorem dX11_init_31 : decode cX11_init 31 = .ok (.invokespecial 18, 3) := by decide +kernel
theorem dX11_init_34 : decode cX11_init 34 = .ok (.putfield 23, 3) := by decide +kernel
theorem dX11_init_37 : decode cX11_init 37 = .ok (.aload_n 0, 1) := by decide +kernel
theorem dX11_init_38 : decode cX11_init 38 = .ok (.new 26, 3) := by decide +kernel
theorem dX11_init_41 : decode cX11_init 41 = .ok (.dup, 1) := by decide +kernel
theorem dX11_init_42 : decode cX11_init 42 = .ok (.aload_n 0, 1) := by decide +kernel
theorem dX11_init_43 : decode cX11_init 43 = .ok (.getfield 10, 3) := by decide +kernel
theorem dX11_init_46 : decode cX11_init 46 = .ok (.aload_n 0, 1) := by decide +kernel
theorem dX11_init_47 : decode cX11_init 47 = .ok (.getfield 23, 3) := by decide +kernel
theorem dX11_init_50 : decode cX11_init 50 = .ok (.invokespecial 28, 3) := by decide +kernel
theorem dX11_init_53 : decode cX11_init 53 = .ok (.putfield 31, 3) := by decide +kernel
theorem dX11_init_56 : decode cX11_init 56 = .ok (.aload_n 0, 1) := by decide +kernel
theorem dX11_init_57 : decode cX11_init 57 = .ok (.new 35, 3) := by decide +kernel
theorem dX11_init_60 : decode cX11_init 60 = .ok (.dup, 1) := by decide +kernel
theorem dX11_init_61 : decode cX11_init 61 = .ok (.aload_n 0, 1) := by decide +kernel
theorem dX11_init_62 : decode cX11_init 62 = .ok (.getfield 10, 3) := by decide +kernel
theorem dX11_init_65 : decode cX11_init 65 = .ok (.invokespecial 37, 3) := by decide +kernel
theorem dX11_init_68 : decode cX11_init 68 = .ok (.putfield 40, 3) := by decide +kernel
theorem dX11_init_71 : decode cX11_init 71 = .ok (.aload_n 0, 1) := by decide +kernel
theorem dX11_init_72 : decode cX11_init 72 = .ok (.new 44, 3) := by decide +kernel
theorem dX11_init_75 : decode cX11_init 75 = .ok (.dup, 1) := by decide +kernel
theorem dX11_init_76 : decode cX11_init 76 = .ok (.invokespecial 46, 3) := by decide +kernel
theorem dX11_init_79 : decode cX11_init 79 = .ok (.putfield 47, 3) := by decide +kernel
theorem dX11_init_82 : decode cX11_init 82 = .ok (.aload_n 0, 1) := by decide +kernel
theorem dX11_init_83 : decode cX11_init 83 = .ok (.new 51, 3) := by decide +kernel
theorem dX11_init_86 : decode cX11_init 86 = .ok (.dup, 1) := by decide +kernel
theorem dX11_init_87 : decode cX11_init 87 = .ok (.aload_n 0, 1) := by decide +kernel
theorem dX11_init_88 : decode cX11_init 88 = .ok (.getfield 19, 3) := by decide +kernel
theorem dX11_init_91 : decode cX11_init 91 = .ok (.aload_n 0, 1) := by decide +kernel
theorem dX11_init_92 : decode cX11_init 92 = .ok (.getfield 47, 3) := by decide +kernel
theorem dX11_init_95 : decode cX11_init 95 = .ok (.invokespecial 53, 3) := by decide +kernel
theorem dX11_init_98 : decode cX11_init 98 = .ok (.putfield 56, 3) := by decide +kernel
theorem dX11_init_101 : decode cX11_init 101 = .ok (.aload_n 0, 1) := by decide +kernel
theorem dX11_init_102 : decode cX11_init 102 = .ok (.new 60, 3) := by decide +kernel
theorem dX11_init_105 : decode cX11_init 105 = .ok (.dup, 1) := by decide +kernel
theorem dX11_init_106 : decode cX11_init 106 = .ok (.invokespecial 62, 3) := by decide +kernel
theorem dX11_init_109 : decode cX11_init 109 = .ok (.putfield 63, 3) := by decide +kernel
theorem dX11_init_112 : decode cX11_init 112 = .ok (.aload_n 0, 1) := by decide +kernel
theorem dX11_init_113 : decode cX11_init 113 = .ok (.new 67, 3) := by decide +kernel
theorem dX11_init_116 : decode cX11_init 116 = .ok (.dup, 1) := by decide +kernel
theorem dX11_init_117 : decode cX11_init 117 = .ok (.invokespecial 69, 3) := by decide +kernel
theorem dX11_init_120 : decode cX11_init 120 = .ok (.putfield 70, 3) := by decide +kernel
theorem dX11_init_123 : decode cX11_init 123 = .ok (.aload_n 0, 1) := by decide +kernel
theorem dX11_init_124 : decode cX11_init 124 = .ok (.new 74, 3) := by decide +kernel
theorem dX11_init_127 : decode cX11_init 127 = .ok (.dup, 1) := by decide +kernel
theorem dX11_init_128 : decode cX11_init 128 = .ok (.invokespecial 76, 3) := by decide +kernel
theorem dX11_init_131 : decode cX11_init 131 = .ok (.putfield 77, 3) := by decide +kernel
theorem dX11_init_134 : decode cX11_init 134 = .ok (.aload_n 0, 1) := by decide +kernel
theorem dX11_init_135 : decode cX11_init 135 = .ok (.new 81, 3) := by decide +kernel
theorem dX11_init_138 : decode cX11_init 138 = .ok (.dup, 1) := by decide +kernel
theorem dX11_init_139 : decode cX11_init 139 = .ok (.aload_n 0, 1) := by decide +kernel
theorem dX11_init_140 : decode cX11_init 140 = .ok (.getfield 19, 3) := by decide +kernel
theorem dX11_init_143 : decode cX11_init 143 = .ok (.aload_n 0, 1) := by decide +kernel
theorem dX11_init_144 : decode cX11_init 144 = .ok (.getfield 56, 3) := by decide +kernel
theorem dX11_init_147 : decode cX11_init 147 = .ok (.invokespecial 83, 3) := by decide +kernel
theorem dX11_init_150 : decode cX11_init 150 = .ok (.putfield 86, 3) := by decide +kernel
theorem dX11_init_153 : decode cX11_init 153 = .ok (.aload_n 0, 1) := by decide +kernel
theorem dX11_init_154 : decode cX11_init 154 = .ok (.new 90, 3) := by decide +kernel
theorem dX11_init_157 : decode cX11_init 157 = .ok (.dup, 1) := by decide +kernel
theorem dX11_init_158 : decode cX11_init 158 = .ok (.invokespecial 92, 3) := by decide +kernel
theorem dX11_init_161 : decode cX11_init 161 = .ok (.putfield 93, 3) := by decide +kernel
theorem dX11_init_164 : decode cX11_init 164 = .ok (.aload_n 0, 1) := by decide +kernel
theorem dX11_init_165 : decode cX11_init 165 = .ok (.bipush 21, 2) := by decide +kernel
theorem dX11_init_167 : decode cX11_init 167 = .ok (.newarray .long, 2) := by decide +kernel
theorem dX11_init_169 : decode cX11_init 169 = .ok (.putfield 97, 3) := by decide +kernel
theorem dX11_init_172 : decode cX11_init 172 = .ok (.aload_n 0, 1) := by decide +kernel
theorem dX11_init_173 : decode cX11_init 173 = .ok (.bipush 8, 2) := by decide +kernel
theorem dX11_init_175 : decode cX11_init 175 = .ok (.newarray .int, 2) := by decide +kernel
theorem dX11_init_177 : decode cX11_init 177 = .ok (.putfield 101, 3) := by decide +kernel
theorem dX11_init_180 : decode cX11_init 180 = .ok (.aload_n 0, 1) := by decide +kernel
theorem dX11_init_181 : decode cX11_init 181 = .ok (.lconst 0, 1) := by decide +kernel
theorem dX11_init_182 : decode cX11_init 182 = .ok (.putfield 105, 3) := by decide +kernel
theorem dX11_init_185 : decode cX11_init 185 = .ok (.return_, 1) := by decide +kernel
theorem dX11_feed_0 : decode cX11_feed 0 = .ok (.iload_n 1, 1) := by decide +kernel
theorem dX11_feed_1 : decode cX11_feed 1 = .ok (.invokestatic 109, 3) := by decide +kernel
theorem dX11_feed_4 : decode cX11_feed 4 = .ok (.iload_n 2, 1) := by decide +kernel
theorem dX11_feed_5 : decode cX11_feed 5 = .ok (.invokestatic 109, 3) := by decide +kernel
theorem dX11_feed_8 : decode cX11_feed 8 = .ok (.iadd, 1) := by decide +kernel
theorem dX11_feed_9 : decode cX11_feed 9 = .ok (.iload_n 3, 1) := by decide +kernel
theorem dX11_feed_10 : decode cX11_feed 10 = .ok (.invokestatic 109, 3) := by decide +kernel
theorem dX11_feed_13 : decode cX11_feed 13 = .ok (.iadd, 1) := by decide +kernel
theorem dX11_feed_14 : decode cX11_feed 14 = .ok (.iload 4, 2) := by decide +kernel
theorem dX11_feed_16 : decode cX11_feed 16 = .ok (.invokestatic 109, 3) := by decide +kernel
theorem dX11_feed_19 : decode cX11_feed 19 = .ok (.iadd, 1) := by decide +kernel
theorem dX11_feed_20 : decode cX11_feed 20 = .ok (.iload 5, 2) := by decide +kernel
theorem dX11_feed_22 : decode cX11_feed 22 = .ok (.invokestatic 109, 3) := by decide +kernel
theorem dX11_feed_25 : decode cX11_feed 25 = .ok (.iadd, 1) := by decide +kernel
theorem dX11_feed_26 : decode cX11_feed 26 = .ok (.istore 6, 2) := by decide +kernel
theorem dX11_feed_28 : decode cX11_feed 28 = .ok (.aload_n 0, 1) := by decide +kernel
theorem dX11_feed_29 : decode cX11_feed 29 = .ok (.getfield 10, 3) := by decide +kernel
theorem dX11_feed_32 : decode cX11_feed 32 = .ok (.getfield 113, 3) := by decide +kernel
theorem dX11_feed_35 : decode cX11_feed 35 = .ok (.iload 6, 2) := by decide +kernel
theorem dX11_feed_37 : decode cX11_feed 37 = .ok (.iadd, 1) := by decide +kernel
theorem dX11_feed_38 : decode cX11_feed 38 = .ok (.sipush 240, 3) := by decide +kernel
theorem dX11_feed_41 : decode cX11_feed 41 = .ok (.if_icmp .le 5, 3) := by decide +kernel
theorem dX11_feed_44 : decode cX11_feed 44 = .ok (.iconst (-1), 1) := by decide +kernel
theorem dX11_feed_45 : decode cX11_feed 45 = .ok (.ireturn, 1) := by decide +kernel
theorem dX11_feed_46 : decode cX11_feed 46 = .ok (.aload_n 0, 1) := by decide +kernel
theorem dX11_feed_47 : decode cX11_feed 47 = .ok (.getfield 10, 3) := by decide +kernel
theorem dX11_feed_50 : decode cX11_feed 50 = .ok (.iload_n 1, 1) := by decide +kernel
theorem dX11_feed_51 : decode cX11_feed 51 = .ok (.invokevirtual 117, 3) := by decide +kernel
theorem dX11_feed_54 : decode cX11_feed 54 = .ok (.aload_n 0, 1) := by decide +kernel
theorem dX11_feed_55 : decode cX11_feed 55 = .ok (.getfield 10, 3) := by decide +kernel
theorem dX11_feed_58 : decode cX11_feed 58 = .ok (.iload_n 2, 1) := by decide +kernel
theorem dX11_feed_59 : decode cX11_feed 59 = .ok (.invokevirtual 117, 3) := by decide +kernel
theorem dX11_feed_62 : decode cX11_feed 62 = .ok (.aload_n 0, 1) := by decide +kernel
theorem dX11_feed_63 : decode cX11_feed 63 = .ok (.getfield 10, 3) := by decide +kernel
theorem dX11_feed_66 : decode cX11_feed 66 = .ok (.iload_n 3, 1) := by decide +kernel
theorem dX11_feed_67 : decode cX11_feed 67 = .ok (.invokevirtual 117, 3) := by decide +kernel
theorem dX11_feed_70 : decode cX11_feed 70 = .ok (.aload_n 0, 1) := by decide +kernel
theorem dX11_feed_71 : decode cX11_feed 71 = .ok (.getfield 10, 3) := by decide +kernel
theorem dX11_feed_74 : decode cX11_feed 74 = .ok (.iload 4, 2) := by decide +kernel
theorem dX11_feed_76 : decode cX11_feed 76 = .ok (.invokevirtual 117, 3) := by decide +kernel
theorem dX11_feed_79 : decode cX11_feed 79 = .ok (.aload_n 0, 1) := by decide +kernel
theorem dX11_feed_80 : decode cX11_feed 80 = .ok (.getfield 10, 3) := by decide +kernel
theorem dX11_feed_83 : decode cX11_feed 83 = .ok (.iload 5, 2) := by decide +kernel
theorem dX11_feed_85 : decode cX11_feed 85 = .ok (.invokevirtual 117, 3) := by decide +kernel
theorem dX11_feed_88 : decode cX11_feed 88 = .ok (.aload_n 0, 1) := by decide +kernel
theorem dX11_feed_89 : decode cX11_feed 89 = .ok (.getfield 10, 3) := by decide +kernel
theorem dX11_feed_92 : decode cX11_feed 92 = .ok (.getfield 113, 3) := by decide +kernel
theorem dX11_feed_95 : decode cX11_feed 95 = .ok (.ireturn, 1) := by decide +kernel
theorem dX11_end_0 : decode cX11_end 0 = .ok (.iload_n 1, 1) := by decide +kernel
theorem dX11_end_1 : decode cX11_end 1 = .ok (.ifCond .lt 14, 3) := by decide +kernel
theorem dX11_end_4 : decode cX11_end 4 = .ok (.iload_n 1, 1) := by decide +kernel
theorem dX11_end_5 : decode cX11_end 5 = .ok (.aload_n 0, 1) := by decide +kernel
theorem dX11_end_6 : decode cX11_end 6 = .ok (.getfield 10, 3) := by decide +kernel
theorem dX11_end_9 : decode cX11_end 9 = .ok (.getfield 113, 3) := by decide +kernel
theorem dX11_end_12 : decode cX11_end 12 = .ok (.if_icmp .le 5, 3) := by decide +kernel
theorem dX11_end_15 : decode cX11_end 15 = .ok (.iconst 0, 1) := by decide +kernel
theorem dX11_end_16 : decode cX11_end 16 = .ok (.ireturn, 1) := by decide +kernel
theorem dX11_end_17 : decode cX11_end 17 = .ok (.aload_n 0, 1) := by decide +kernel
theorem dX11_end_18 : decode cX11_end 18 = .ok (.getfield 10, 3) := by decide +kernel
theorem dX11_end_21 : decode cX11_end 21 = .ok (.iload_n 1, 1) := by decide +kernel
theorem dX11_end_22 : decode cX11_end 22 = .ok (.putfield 113, 3) := by decide +kernel
theorem dX11_end_25 : decode cX11_end 25 = .ok (.iconst 1, 1) := by decide +kernel
theorem dX11_end_26 : decode cX11_end 26 = .ok (.ireturn, 1) := by decide +kernel
theorem dX11_fault_0 : decode cX11_fault 0 = .ok (.iload_n 1, 1) := by decide +kernel
theorem dX11_fault_1 : decode cX11_fault 1 = .ok (.ifCond .ne 11, 3) := by decide +kernel
theorem dX11_fault_4 : decode cX11_fault 4 = .ok (.aload_n 0, 1) := by decide +kernel
theorem dX11_fault_5 : decode cX11_fault 5 = .ok (.getfield 31, 3) := by decide +kernel
theorem dX11_fault_8 : decode cX11_fault 8 = .ok (.invokevirtual 121, 3) := by decide +kernel
theorem dX11_fault_11 : decode cX11_fault 11 = .ok (.ireturn, 1) := by decide +kernel
theorem dX11_fault_12 : decode cX11_fault 12 = .ok (.iload_n 1, 1) := by decide +kernel
theorem dX11_fault_13 : decode cX11_fault 13 = .ok (.iconst 1, 1) := by decide +kernel
theorem dX11_fault_14 : decode cX11_fault 14 = .ok (.if_icmp .ne 13, 3) := by decide +kernel
theorem dX11_fault_17 : decode cX11_fault 17 = .ok (.aload_n 0, 1) := by decide +kernel
theorem dX11_fault_18 : decode cX11_fault 18 = .ok (.getfield 40, 3) := by decide +kernel
theorem dX11_fault_21 : decode cX11_fault 21 = .ok (.invokevirtual 125, 3) := by decide +kernel
theorem dX11_fault_24 : decode cX11_fault 24 = .ok (.goto 5, 3) := by decide +kernel
theorem dX11_fault_27 : decode cX11_fault 27 = .ok (.bipush (-2), 2) := by decide +kernel
theorem dX11_fault_29 : decode cX11_fault 29 = .ok (.ireturn, 1) := by decide +kernel
theorem dX11_text_0 : decode cX11_text 0 = .ok (.iload_n 1, 1) := by decide +kernel
theorem dX11_text_1 : decode cX11_text 1 = .ok (.ifCond .ne 8, 3) := by decide +kernel
theorem dX11_text_4 : decode cX11_text 4 = .ok (.aload_n 0, 1) := by decide +kernel
theorem dX11_text_5 : decode cX11_text 5 = .ok (.invokevirtual 126, 3) := by decide +kernel
theorem dX11_text_8 : decode cX11_text 8 = .ok (.ireturn, 1) := by decide +kernel
theorem dX11_text_9 : decode cX11_text 9 = .ok (.iload_n 1, 1) := by decide +kernel
theorem dX11_text_10 : decode cX11_text 10 = .ok (.iconst 1, 1) := by decide +kernel
theorem dX11_text_11 : decode cX11_text 11 = .ok (.if_icmp .ne 25, 3) := by decide +kernel
theorem dX11_text_14 : decode cX11_text 14 = .ok (.aload_n 0, 1) := by decide +kernel
theorem dX11_text_15 : decode cX11_text 15 = .ok (.getfield 47, 3) := by decide +kernel
theorem dX11_text_18 : decode cX11_text 18 = .ok (.getfield 129, 3) := by decide +kernel
theorem dX11_text_21 : decode cX11_text 21 = .ok (.iconst 4, 1) := by decide +kernel
theorem dX11_text_22 : decode cX11_text 22 = .ok (.if_icmp .ge 14, 3) := by decide +kernel
theorem dX11_text_25 : decode cX11_text 25 = .ok (.aload_n 0, 1) := by decide +kernel
theorem dX11_text_26 : decode cX11_text 26 = .ok (.getfield 40, 3) := by decide +kernel
theorem dX11_text_29 : decode cX11_text 29 = .ok (.invokevirtual 125, 3) := by decide +kernel
theorem dX11_text_32 : decode cX11_text 32 = .ok (.iconst (-1), 1) := by decide +kernel
theorem dX11_text_33 : decode cX11_text 33 = .ok (.if_icmp .eq 5, 3) := by decide +kernel
theorem dX11_text_36 : decode cX11_text 36 = .ok (.iconst (-1), 1) := by decide +kernel
theorem dX11_text_37 : decode cX11_text 37 = .ok (.ireturn, 1) := by decide +kernel
theorem dX11_text_38 : decode cX11_text 38 = .ok (.aload_n 0, 1) := by decide +kernel
theorem dX11_text_39 : decode cX11_text 39 = .ok (.getfield 47, 3) := by decide +kernel
theorem dX11_text_42 : decode cX11_text 42 = .ok (.aload_n 0, 1) := by decide +kernel
theorem dX11_text_43 : decode cX11_text 43 = .ok (.getfield 40, 3) := by decide +kernel
theorem dX11_text_46 : decode cX11_text 46 = .ok (.invokevirtual 132, 3) := by decide +kernel
theorem dX11_text_49 : decode cX11_text 49 = .ok (.aload_n 0, 1) := by decide +kernel
theorem dX11_text_50 : decode cX11_text 50 = .ok (.getfield 10, 3) := by decide +kernel
theorem dX11_text_53 : decode cX11_text 53 = .ok (.iconst 0, 1) := by decide +kernel
theorem dX11_text_54 : decode cX11_text 54 = .ok (.putfield 113, 3) := by decide +kernel
theorem dX11_text_57 : decode cX11_text 57 = .ok (.aload_n 0, 1) := by decide +kernel
theorem dX11_text_58 : decode cX11_text 58 = .ok (.getfield 47, 3) := by decide +kernel
theorem dX11_text_61 : decode cX11_text 61 = .ok (.getfield 129, 3) := by decide +kernel
theorem dX11_text_64 : decode cX11_text 64 = .ok (.iconst 1, 1) := by decide +kernel
theorem dX11_text_65 : decode cX11_text 65 = .ok (.isub, 1) := by decide +kernel
theorem dX11_text_66 : decode cX11_text 66 = .ok (.ireturn, 1) := by decide +kernel
theorem dX11_beginWar_0 : decode cX11_beginWar 0 = .ok (.aload_n 0, 1) := by decide +kernel
theorem dX11_beginWar_1 : decode cX11_beginWar 1 = .ok (.getfield 31, 3) := by decide +kernel
theorem dX11_beginWar_4 : decode cX11_beginWar 4 = .ok (.invokevirtual 121, 3) := by decide +kernel
theorem dX11_beginWar_7 : decode cX11_beginWar 7 = .ok (.iconst (-1), 1) := by decide +kernel
theorem dX11_beginWar_8 : decode cX11_beginWar 8 = .ok (.if_icmp .eq 5, 3) := by decide +kernel
theorem dX11_beginWar_11 : decode cX11_beginWar 11 = .ok (.iconst (-1), 1) := by decide +kernel
theorem dX11_beginWar_12 : decode cX11_beginWar 12 = .ok (.ireturn, 1) := by decide +kernel
theorem dX11_beginWar_13 : decode cX11_beginWar 13 = .ok (.aload_n 0, 1) := by decide +kernel
theorem dX11_beginWar_14 : decode cX11_beginWar 14 = .ok (.getfield 19, 3) := by decide +kernel
theorem dX11_beginWar_17 : decode cX11_beginWar 17 = .ok (.aload_n 0, 1) := by decide +kernel
theorem dX11_beginWar_18 : decode cX11_beginWar 18 = .ok (.getfield 23, 3) := by decide +kernel
theorem dX11_beginWar_21 : decode cX11_beginWar 21 = .ok (.invokevirtual 136, 3) := by decide +kernel
theorem dX11_beginWar_24 : decode cX11_beginWar 24 = .ok (.aload_n 0, 1) := by decide +kernel
theorem dX11_beginWar_25 : decode cX11_beginWar 25 = .ok (.getfield 77, 3) := by decide +kernel
theorem dX11_beginWar_28 : decode cX11_beginWar 28 = .ok (.aload_n 0, 1) := by decide +kernel
theorem dX11_beginWar_29 : decode cX11_beginWar 29 = .ok (.getfield 19, 3) := by decide +kernel
theorem dX11_beginWar_32 : decode cX11_beginWar 32 = .ok (.invokevirtual 140, 3) := by decide +kernel
theorem dX11_beginWar_35 : decode cX11_beginWar 35 = .ok (.aload_n 0, 1) := by decide +kernel
theorem dX11_beginWar_36 : decode cX11_beginWar 36 = .ok (.getfield 56, 3) := by decide +kernel
theorem dX11_beginWar_39 : decode cX11_beginWar 39 = .ok (.invokevirtual 143, 3) := by decide +kernel
theorem dX11_beginWar_42 : decode cX11_beginWar 42 = .ok (.aload_n 0, 1) := by decide +kernel
theorem dX11_beginWar_43 : decode cX11_beginWar 43 = .ok (.getfield 63, 3) := by decide +kernel
theorem dX11_beginWar_46 : decode cX11_beginWar 46 = .ok (.invokevirtual 146, 3) := by decide +kernel
theorem dX11_beginWar_49 : decode cX11_beginWar 49 = .ok (.aload_n 0, 1) := by decide +kernel
theorem dX11_beginWar_50 : decode cX11_beginWar 50 = .ok (.getfield 70, 3) := by decide +kernel
theorem dX11_beginWar_53 : decode cX11_beginWar 53 = .ok (.invokevirtual 149, 3) := by decide +kernel
theorem dX11_beginWar_56 : decode cX11_beginWar 56 = .ok (.aload_n 0, 1) := by decide +kernel
theorem dX11_beginWar_57 : decode cX11_beginWar 57 = .ok (.getfield 93, 3) := by decide +kernel
theorem dX11_beginWar_60 : decode cX11_beginWar 60 = .ok (.iconst 0, 1) := by decide +kernel
theorem dX11_beginWar_61 : decode cX11_beginWar 61 = .ok (.putfield 150, 3) := by decide +kernel
theorem dX11_beginWar_64 : decode cX11_beginWar 64 = .ok (.aload_n 0, 1) := by decide +kernel
theorem dX11_beginWar_65 : decode cX11_beginWar 65 = .ok (.getfield 10, 3) := by decide +kernel
theorem dX11_beginWar_68 : decode cX11_beginWar 68 = .ok (.iconst 0, 1) := by decide +kernel
theorem dX11_beginWar_69 : decode cX11_beginWar 69 = .ok (.putfield 113, 3) := by decide +kernel
theorem dX11_beginWar_72 : decode cX11_beginWar 72 = .ok (.aload_n 0, 1) := by decide +kernel
theorem dX11_beginWar_73 : decode cX11_beginWar 73 = .ok (.getfield 19, 3) := by decide +kernel
theorem dX11_beginWar_76 : decode cX11_beginWar 76 = .ok (.getfield 151, 3) := by decide +kernel
theorem dX11_beginWar_79 : decode cX11_beginWar 79 = .ok (.ireturn, 1) := by decide +kernel
theorem dX11_man_0 : decode cX11_man 0 = .ok (.aload_n 0, 1) := by decide +kernel
theorem dX11_man_1 : decode cX11_man 1 = .ok (.getfield 19, 3) := by decide +kernel
theorem dX11_man_4 : decode cX11_man 4 = .ok (.iload_n 1, 1) := by decide +kernel
theorem dX11_man_5 : decode cX11_man 5 = .ok (.invokevirtual 154, 3) := by decide +kernel
theorem dX11_man_8 : decode cX11_man 8 = .ok (.ifCond .ne 13, 3) := by decide +kernel
theorem dX11_man_11 : decode cX11_man 11 = .ok (.new 158, 3) := by decide +kernel
theorem dX11_man_14 : decode cX11_man 14 = .ok (.dup, 1) := by decide +kernel
theorem dX11_man_15 : decode cX11_man 15 = .ok (.ldc 160, 2) := by decide +kernel
theorem dX11_man_17 : decode cX11_man 17 = .ok (.invokespecial 162, 3) := by decide +kernel
theorem dX11_man_20 : decode cX11_man 20 = .ok (.athrow, 1) := by decide +kernel
theorem dX11_man_21 : decode cX11_man 21 = .ok (.iload_n 2, 1) := by decide +kernel
theorem dX11_man_22 : decode cX11_man 22 = .ok (.tableswitch 154 0 8 #[50, 60, 70, 80, 90, 100, 110, 120, 137], 50) := by decide +kernel
theorem dX11_man_72 : decode cX11_man 72 = .ok (.aload_n 0, 1) := by decide +kernel
theorem dX11_man_73 : decode cX11_man 73 = .ok (.getfield 19, 3) := by decide +kernel
theorem dX11_man_76 : decode cX11_man 76 = .ok (.getfield 165, 3) := by decide +kernel
theorem dX11_man_79 : decode cX11_man 79 = .ok (.iload_n 1, 1) := by decide +kernel
theorem dX11_man_80 : decode cX11_man 80 = .ok (.iaload, 1) := by decide +kernel
theorem dX11_man_81 : decode cX11_man 81 = .ok (.ireturn, 1) := by decide +kernel
theorem dX11_man_82 : decode cX11_man 82 = .ok (.aload_n 0, 1) := by decide +kernel
theorem dX11_man_83 : decode cX11_man 83 = .ok (.getfield 56, 3) := by decide +kernel
theorem dX11_man_86 : decode cX11_man 86 = .ok (.getfield 168, 3) := by decide +kernel
theorem dX11_man_89 : decode cX11_man 89 = .ok (.iload_n 1, 1) := by decide +kernel
theorem dX11_man_90 : decode cX11_man 90 = .ok (.iaload, 1) := by decide +kernel
theorem dX11_man_91 : decode cX11_man 91 = .ok (.ireturn, 1) := by decide +kernel
theorem dX11_man_92 : decode cX11_man 92 = .ok (.aload_n 0, 1) := by decide +kernel
theorem dX11_man_93 : decode cX11_man 93 = .ok (.getfield 19, 3) := by decide +kernel
theorem dX11_man_96 : decode cX11_man 96 = .ok (.getfield 171, 3) := by decide +kernel
theorem dX11_man_99 : decode cX11_man 99 = .ok (.iload_n 1, 1) := by decide +kernel
theorem dX11_man_100 : decode cX11_man 100 = .ok (.iaload, 1) := by decide +kernel
theorem dX11_man_101 : decode cX11_man 101 = .ok (.ireturn, 1) := by decide +kernel
theorem dX11_man_102 : decode cX11_man 102 = .ok (.aload_n 0, 1) := by decide +kernel
theorem dX11_man_103 : decode cX11_man 103 = .ok (.getfield 19, 3) := by decide +kernel
theorem dX11_man_106 : decode cX11_man 106 = .ok (.getfield 174, 3) := by decide +kernel
theorem dX11_man_109 : decode cX11_man 109 = .ok (.iload_n 1, 1) := by decide +kernel
theorem dX11_man_110 : decode cX11_man 110 = .ok (.iaload, 1) := by decide +kernel
theorem dX11_man_111 : decode cX11_man 111 = .ok (.ireturn, 1) := by decide +kernel
theorem dX11_man_112 : decode cX11_man 112 = .ok (.aload_n 0, 1) := by decide +kernel
theorem dX11_man_113 : decode cX11_man 113 = .ok (.getfield 19, 3) := by decide +kernel
theorem dX11_man_116 : decode cX11_man 116 = .ok (.getfield 177, 3) := by decide +kernel
theorem dX11_man_119 : decode cX11_man 119 = .ok (.iload_n 1, 1) := by decide +kernel
theorem dX11_man_120 : decode cX11_man 120 = .ok (.iaload, 1) := by decide +kernel
theorem dX11_man_121 : decode cX11_man 121 = .ok (.ireturn, 1) := by decide +kernel
theorem dX11_man_122 : decode cX11_man 122 = .ok (.aload_n 0, 1) := by decide +kernel
theorem dX11_man_123 : decode cX11_man 123 = .ok (.getfield 19, 3) := by decide +kernel
theorem dX11_man_126 : decode cX11_man 126 = .ok (.getfield 180, 3) := by decide +kernel
theorem dX11_man_129 : decode cX11_man 129 = .ok (.iload_n 1, 1) := by decide +kernel
theorem dX11_man_130 : decode cX11_man 130 = .ok (.iaload, 1) := by decide +kernel
theorem dX11_man_131 : decode cX11_man 131 = .ok (.ireturn, 1) := by decide +kernel
theorem dX11_man_132 : decode cX11_man 132 = .ok (.aload_n 0, 1) := by decide +kernel
theorem dX11_man_133 : decode cX11_man 133 = .ok (.getfield 56, 3) := by decide +kernel
theorem dX11_man_136 : decode cX11_man 136 = .ok (.getfield 183, 3) := by decide +kernel
theorem dX11_man_139 : decode cX11_man 139 = .ok (.iload_n 1, 1) := by decide +kernel
theorem dX11_man_140 : decode cX11_man 140 = .ok (.iaload, 1) := by decide +kernel
theorem dX11_man_141 : decode cX11_man 141 = .ok (.ireturn, 1) := by decide +kernel
theorem dX11_man_142 : decode cX11_man 142 = .ok (.aload_n 0, 1) := by decide +kernel
theorem dX11_man_143 : decode cX11_man 143 = .ok (.getfield 56, 3) := by decide +kernel
theorem dX11_man_146 : decode cX11_man 146 = .ok (.iload_n 1, 1) := by decide +kernel
theorem dX11_man_147 : decode cX11_man 147 = .ok (.invokevirtual 186, 3) := by decide +kernel
theorem dX11_man_150 : decode cX11_man 150 = .ok (.ifCond .eq 7, 3) := by decide +kernel
theorem dX11_man_153 : decode cX11_man 153 = .ok (.iconst 1, 1) := by decide +kernel
theorem dX11_man_154 : decode cX11_man 154 = .ok (.goto 4, 3) := by decide +kernel
theorem dX11_man_157 : decode cX11_man 157 = .ok (.iconst 0, 1) := by decide +kernel
theorem dX11_man_158 : decode cX11_man 158 = .ok (.ireturn, 1) := by decide +kernel
theorem dX11_man_159 : decode cX11_man 159 = .ok (.aload_n 0, 1) := by decide +kernel
theorem dX11_man_160 : decode cX11_man 160 = .ok (.getfield 56, 3) := by decide +kernel
theorem dX11_man_163 : decode cX11_man 163 = .ok (.iload_n 1, 1) := by decide +kernel
theorem dX11_man_164 : decode cX11_man 164 = .ok (.invokevirtual 189, 3) := by decide +kernel
theorem dX11_man_167 : decode cX11_man 167 = .ok (.ifCond .eq 7, 3) := by decide +kernel
theorem dX11_man_170 : decode cX11_man 170 = .ok (.iconst 1, 1) := by decide +kernel
theorem dX11_man_171 : decode cX11_man 171 = .ok (.goto 4, 3) := by decide +kernel
theorem dX11_man_174 : decode cX11_man 174 = .ok (.iconst 0, 1) := by decide +kernel
theorem dX11_man_175 : decode cX11_man 175 = .ok (.ireturn, 1) := by decide +kernel
theorem dX11_man_176 : decode cX11_man 176 = .ok (.new 158, 3) := by decide +kernel
theorem dX11_man_179 : decode cX11_man 179 = .ok (.dup, 1) := by decide +kernel
theorem dX11_man_180 : decode cX11_man 180 = .ok (.ldc 192, 2) := by decide +kernel
theorem dX11_man_182 : decode cX11_man 182 = .ok (.invokespecial 162, 3) := by decide +kernel
theorem dX11_man_185 : decode cX11_man 185 = .ok (.athrow, 1) := by decide +kernel
theorem dX11_orchard_0 : decode cX11_orchard 0 = .ok (.iload_n 1, 1) := by decide +kernel
theorem dX11_orchard_1 : decode cX11_orchard 1 = .ok (.ifCond .lt 20, 3) := by decide +kernel
theorem dX11_orchard_4 : decode cX11_orchard 4 = .ok (.iload_n 1, 1) := by decide +kernel
theorem dX11_orchard_5 : decode cX11_orchard 5 = .ok (.aload_n 0, 1) := by decide +kernel
theorem dX11_orchard_6 : decode cX11_orchard 6 = .ok (.getfield 19, 3) := by decide +kernel
theorem dX11_orchard_9 : decode cX11_orchard 9 = .ok (.getfield 194, 3) := by decide +kernel
theorem dX11_orchard_12 : decode cX11_orchard 12 = .ok (.if_icmp .ge 9, 3) := by decide +kernel
theorem dX11_orchard_15 : decode cX11_orchard 15 = .ok (.iload_n 1, 1) := by decide +kernel
theorem dX11_orchard_16 : decode cX11_orchard 16 = .ok (.bipush 6, 2) := by decide +kernel
theorem dX11_orchard_18 : decode cX11_orchard 18 = .ok (.if_icmp .lt 5, 3) := by decide +kernel
theorem dX11_orchard_21 : decode cX11_orchard 21 = .ok (.iconst (-1), 1) := by decide +kernel
theorem dX11_orchard_22 : decode cX11_orchard 22 = .ok (.ireturn, 1) := by decide +kernel
theorem dX11_orchard_23 : decode cX11_orchard 23 = .ok (.iload_n 2, 1) := by decide +kernel
theorem dX11_orchard_24 : decode cX11_orchard 24 = .ok (.ifCond .ne 13, 3) := by decide +kernel
theorem dX11_orchard_27 : decode cX11_orchard 27 = .ok (.aload_n 0, 1) := by decide +kernel
theorem dX11_orchard_28 : decode cX11_orchard 28 = .ok (.getfield 19, 3) := by decide +kernel
theorem dX11_orchard_31 : decode cX11_orchard 31 = .ok (.getfield 197, 3) := by decide +kernel
theorem dX11_orchard_34 : decode cX11_orchard 34 = .ok (.iload_n 1, 1) := by decide +kernel
theorem dX11_orchard_35 : decode cX11_orchard 35 = .ok (.iaload, 1) := by decide +kernel
theorem dX11_orchard_36 : decode cX11_orchard 36 = .ok (.ireturn, 1) := by decide +kernel
theorem dX11_orchard_37 : decode cX11_orchard 37 = .ok (.iload_n 2, 1) := by decide +kernel
theorem dX11_orchard_38 : decode cX11_orchard 38 = .ok (.iconst 1, 1) := by decide +kernel
theorem dX11_orchard_39 : decode cX11_orchard 39 = .ok (.if_icmp .ne 15, 3) := by decide +kernel
theorem dX11_orchard_42 : decode cX11_orchard 42 = .ok (.aload_n 0, 1) := by decide +kernel
theorem dX11_orchard_43 : decode cX11_orchard 43 = .ok (.getfield 19, 3) := by decide +kernel
theorem dX11_orchard_46 : decode cX11_orchard 46 = .ok (.getfield 200, 3) := by decide +kernel
theorem dX11_orchard_49 : decode cX11_orchard 49 = .ok (.iload_n 1, 1) := by decide +kernel
theorem dX11_orchard_50 : decode cX11_orchard 50 = .ok (.iaload, 1) := by decide +kernel
theorem dX11_orchard_51 : decode cX11_orchard 51 = .ok (.goto 4, 3) := by decide +kernel
theorem dX11_orchard_54 : decode cX11_orchard 54 = .ok (.iconst (-1), 1) := by decide +kernel
theorem dX11_orchard_55 : decode cX11_orchard 55 = .ok (.ireturn, 1) := by decide +kernel
theorem dX11_law_0 : decode cX11_law 0 = .ok (.iload_n 1, 1) := by decide +kernel
theorem dX11_law_1 : decode cX11_law 1 = .ok (.iconst (-1), 1) := by decide +kernel
theorem dX11_law_2 : decode cX11_law 2 = .ok (.if_icmp .eq 16, 3) := by decide +kernel
theorem dX11_law_5 : decode cX11_law 5 = .ok (.aload_n 0, 1) := by decide +kernel
theorem dX11_law_6 : decode cX11_law 6 = .ok (.getfield 47, 3) := by decide +kernel
theorem dX11_law_9 : decode cX11_law 9 = .ok (.iload_n 1, 1) := by decide +kernel
theorem dX11_law_10 : decode cX11_law 10 = .ok (.invokevirtual 203, 3) := by decide +kernel
theorem dX11_law_13 : decode cX11_law 13 = .ok (.ifCond .ne 5, 3) := by decide +kernel
theorem dX11_law_16 : decode cX11_law 16 = .ok (.iconst 0, 1) := by decide +kernel
theorem dX11_law_17 : decode cX11_law 17 = .ok (.ireturn, 1) := by decide +kernel
theorem dX11_law_18 : decode cX11_law 18 = .ok (.aload_n 0, 1) := by decide +kernel
theorem dX11_law_19 : decode cX11_law 19 = .ok (.getfield 47, 3) := by decide +kernel
theorem dX11_law_22 : decode cX11_law 22 = .ok (.iload_n 1, 1) := by decide +kernel
theorem dX11_law_23 : decode cX11_law 23 = .ok (.putfield 206, 3) := by decide +kernel
theorem dX11_law_26 : decode cX11_law 26 = .ok (.aload_n 0, 1) := by decide +kernel
theorem dX11_law_27 : decode cX11_law 27 = .ok (.getfield 56, 3) := by decide +kernel
theorem dX11_law_30 : decode cX11_law 30 = .ok (.invokevirtual 209, 3) := by decide +kernel
theorem dX11_law_33 : decode cX11_law 33 = .ok (.iconst 1, 1) := by decide +kernel
theorem dX11_law_34 : decode cX11_law 34 = .ok (.ireturn, 1) := by decide +kernel
theorem dX11_won_0 : decode cX11_won 0 = .ok (.aload_n 0, 1) := by decide +kernel
theorem dX11_won_1 : decode cX11_won 1 = .ok (.getfield 56, 3) := by decide +kernel
theorem dX11_won_4 : decode cX11_won 4 = .ok (.invokevirtual 212, 3) := by decide +kernel
theorem dX11_won_7 : decode cX11_won 7 = .ok (.ireturn, 1) := by decide +kernel
theorem dX11_count_0 : decode cX11_count 0 = .ok (.iload_n 1, 1) := by decide +kernel
theorem dX11_count_1 : decode cX11_count 1 = .ok (.tableswitch 159 0 11 #[63, 71, 79, 87, 95, 103, 111, 119, 127, 135, 143, 151], 63) := by decide +kernel
theorem dX11_count_64 : decode cX11_count 64 = .ok (.aload_n 0, 1) := by decide +kernel
theorem dX11_count_65 : decode cX11_count 65 = .ok (.getfield 19, 3) := by decide +kernel
theorem dX11_count_68 : decode cX11_count 68 = .ok (.getfield 151, 3) := by decide +kernel
theorem dX11_count_71 : decode cX11_count 71 = .ok (.ireturn, 1) := by decide +kernel
theorem dX11_count_72 : decode cX11_count 72 = .ok (.aload_n 0, 1) := by decide +kernel
theorem dX11_count_73 : decode cX11_count 73 = .ok (.getfield 19, 3) := by decide +kernel
theorem dX11_count_76 : decode cX11_count 76 = .ok (.getfield 194, 3) := by decide +kernel
theorem dX11_count_79 : decode cX11_count 79 = .ok (.ireturn, 1) := by decide +kernel
theorem dX11_count_80 : decode cX11_count 80 = .ok (.aload_n 0, 1) := by decide +kernel
theorem dX11_count_81 : decode cX11_count 81 = .ok (.getfield 47, 3) := by decide +kernel
theorem dX11_count_84 : decode cX11_count 84 = .ok (.getfield 129, 3) := by decide +kernel
theorem dX11_count_87 : decode cX11_count 87 = .ok (.ireturn, 1) := by decide +kernel
theorem dX11_count_88 : decode cX11_count 88 = .ok (.aload_n 0, 1) := by decide +kernel
theorem dX11_count_89 : decode cX11_count 89 = .ok (.getfield 10, 3) := by decide +kernel
theorem dX11_count_92 : decode cX11_count 92 = .ok (.getfield 113, 3) := by decide +kernel
theorem dX11_count_95 : decode cX11_count 95 = .ok (.ireturn, 1) := by decide +kernel
theorem dX11_count_96 : decode cX11_count 96 = .ok (.aload_n 0, 1) := by decide +kernel
theorem dX11_count_97 : decode cX11_count 97 = .ok (.getfield 47, 3) := by decide +kernel
theorem dX11_count_100 : decode cX11_count 100 = .ok (.getfield 206, 3) := by decide +kernel
theorem dX11_count_103 : decode cX11_count 103 = .ok (.ireturn, 1) := by decide +kernel
theorem dX11_count_104 : decode cX11_count 104 = .ok (.aload_n 0, 1) := by decide +kernel
theorem dX11_count_105 : decode cX11_count 105 = .ok (.getfield 56, 3) := by decide +kernel
theorem dX11_count_108 : decode cX11_count 108 = .ok (.getfield 215, 3) := by decide +kernel
theorem dX11_count_111 : decode cX11_count 111 = .ok (.ireturn, 1) := by decide +kernel
theorem dX11_count_112 : decode cX11_count 112 = .ok (.aload_n 0, 1) := by decide +kernel
theorem dX11_count_113 : decode cX11_count 113 = .ok (.getfield 19, 3) := by decide +kernel
theorem dX11_count_116 : decode cX11_count 116 = .ok (.getfield 218, 3) := by decide +kernel
theorem dX11_count_119 : decode cX11_count 119 = .ok (.ireturn, 1) := by decide +kernel
theorem dX11_count_120 : decode cX11_count 120 = .ok (.aload_n 0, 1) := by decide +kernel
theorem dX11_count_121 : decode cX11_count 121 = .ok (.getfield 19, 3) := by decide +kernel
theorem dX11_count_124 : decode cX11_count 124 = .ok (.getfield 221, 3) := by decide +kernel
theorem dX11_count_127 : decode cX11_count 127 = .ok (.ireturn, 1) := by decide +kernel
theorem dX11_count_128 : decode cX11_count 128 = .ok (.aload_n 0, 1) := by decide +kernel
theorem dX11_count_129 : decode cX11_count 129 = .ok (.getfield 56, 3) := by decide +kernel
theorem dX11_count_132 : decode cX11_count 132 = .ok (.getfield 224, 3) := by decide +kernel
theorem dX11_count_135 : decode cX11_count 135 = .ok (.ireturn, 1) := by decide +kernel
theorem dX11_count_136 : decode cX11_count 136 = .ok (.aload_n 0, 1) := by decide +kernel
theorem dX11_count_137 : decode cX11_count 137 = .ok (.getfield 93, 3) := by decide +kernel
theorem dX11_count_140 : decode cX11_count 140 = .ok (.getfield 150, 3) := by decide +kernel
theorem dX11_count_143 : decode cX11_count 143 = .ok (.ireturn, 1) := by decide +kernel
theorem dX11_count_144 : decode cX11_count 144 = .ok (.aload_n 0, 1) := by decide +kernel
theorem dX11_count_145 : decode cX11_count 145 = .ok (.getfield 63, 3) := by decide +kernel
theorem dX11_count_148 : decode cX11_count 148 = .ok (.invokevirtual 227, 3) := by decide +kernel
theorem dX11_count_151 : decode cX11_count 151 = .ok (.ireturn, 1) := by decide +kernel
theorem dX11_count_152 : decode cX11_count 152 = .ok (.aload_n 0, 1) := by decide +kernel
theorem dX11_count_153 : decode cX11_count 153 = .ok (.getfield 70, 3) := by decide +kernel
theorem dX11_count_156 : decode cX11_count 156 = .ok (.getfield 229, 3) := by decide +kernel
theorem dX11_count_159 : decode cX11_count 159 = .ok (.ireturn, 1) := by decide +kernel
theorem dX11_count_160 : decode cX11_count 160 = .ok (.ldc 232, 2) := by decide +kernel
theorem dX11_count_162 : decode cX11_count 162 = .ok (.ireturn, 1) := by decide +kernel
theorem dX11_go_0 : decode cX11_go 0 = .ok (.aload_n 0, 1) := by decide +kernel
theorem dX11_go_1 : decode cX11_go 1 = .ok (.getfield 56, 3) := by decide +kernel
theorem dX11_go_4 : decode cX11_go 4 = .ok (.iload_n 1, 1) := by decide +kernel
theorem dX11_go_5 : decode cX11_go 5 = .ok (.invokevirtual 233, 3) := by decide +kernel
theorem dX11_go_8 : decode cX11_go 8 = .ok (.ifCond .eq 14, 3) := by decide +kernel
theorem dX11_go_11 : decode cX11_go 11 = .ok (.aload_n 0, 1) := by decide +kernel
theorem dX11_go_12 : decode cX11_go 12 = .ok (.getfield 56, 3) := by decide +kernel
theorem dX11_go_15 : decode cX11_go 15 = .ok (.iload_n 1, 1) := by decide +kernel
theorem dX11_go_16 : decode cX11_go 16 = .ok (.invokevirtual 236, 3) := by decide +kernel
theorem dX11_go_19 : decode cX11_go 19 = .ok (.ifCond .ne 5, 3) := by decide +kernel
theorem dX11_go_22 : decode cX11_go 22 = .ok (.iconst (-1), 1) := by decide +kernel
theorem dX11_go_23 : decode cX11_go 23 = .ok (.ireturn, 1) := by decide +kernel
theorem dX11_go_24 : decode cX11_go 24 = .ok (.aload_n 0, 1) := by decide +kernel
theorem dX11_go_25 : decode cX11_go 25 = .ok (.getfield 70, 3) := by decide +kernel
theorem dX11_go_28 : decode cX11_go 28 = .ok (.aload_n 0, 1) := by decide +kernel
theorem dX11_go_29 : decode cX11_go 29 = .ok (.getfield 56, 3) := by decide +kernel
theorem dX11_go_32 : decode cX11_go 32 = .ok (.aload_n 0, 1) := by decide +kernel
theorem dX11_go_33 : decode cX11_go 33 = .ok (.getfield 63, 3) := by decide +kernel
theorem dX11_go_36 : decode cX11_go 36 = .ok (.invokevirtual 239, 3) := by decide +kernel
theorem dX11_go_39 : decode cX11_go 39 = .ok (.aload_n 0, 1) := by decide +kernel
theorem dX11_go_40 : decode cX11_go 40 = .ok (.iload_n 1, 1) := by decide +kernel
theorem dX11_go_41 : decode cX11_go 41 = .ok (.invokevirtual 243, 3) := by decide +kernel
theorem dX11_go_44 : decode cX11_go 44 = .ok (.aload_n 0, 1) := by decide +kernel
theorem dX11_go_45 : decode cX11_go 45 = .ok (.getfield 56, 3) := by decide +kernel
theorem dX11_go_48 : decode cX11_go 48 = .ok (.getfield 168, 3) := by decide +kernel
theorem dX11_go_51 : decode cX11_go 51 = .ok (.iload_n 1, 1) := by decide +kernel
theorem dX11_go_52 : decode cX11_go 52 = .ok (.iaload, 1) := by decide +kernel
theorem dX11_go_53 : decode cX11_go 53 = .ok (.ireturn, 1) := by decide +kernel
theorem dX11_stay_0 : decode cX11_stay 0 = .ok (.aload_n 0, 1) := by decide +kernel
theorem dX11_stay_1 : decode cX11_stay 1 = .ok (.getfield 56, 3) := by decide +kernel
theorem dX11_stay_4 : decode cX11_stay 4 = .ok (.iload_n 1, 1) := by decide +kernel
theorem dX11_stay_5 : decode cX11_stay 5 = .ok (.invokevirtual 233, 3) := by decide +kernel
theorem dX11_stay_8 : decode cX11_stay 8 = .ok (.ifCond .eq 14, 3) := by decide +kernel
theorem dX11_stay_11 : decode cX11_stay 11 = .ok (.aload_n 0, 1) := by decide +kernel
theorem dX11_stay_12 : decode cX11_stay 12 = .ok (.getfield 56, 3) := by decide +kernel
theorem dX11_stay_15 : decode cX11_stay 15 = .ok (.iload_n 1, 1) := by decide +kernel
theorem dX11_stay_16 : decode cX11_stay 16 = .ok (.invokevirtual 246, 3) := by decide +kernel
theorem dX11_stay_19 : decode cX11_stay 19 = .ok (.ifCond .ne 5, 3) := by decide +kernel
theorem dX11_stay_22 : decode cX11_stay 22 = .ok (.iconst (-1), 1) := by decide +kernel
theorem dX11_stay_23 : decode cX11_stay 23 = .ok (.ireturn, 1) := by decide +kernel
theorem dX11_stay_24 : decode cX11_stay 24 = .ok (.aload_n 0, 1) := by decide +kernel
theorem dX11_stay_25 : decode cX11_stay 25 = .ok (.getfield 70, 3) := by decide +kernel
theorem dX11_stay_28 : decode cX11_stay 28 = .ok (.aload_n 0, 1) := by decide +kernel
theorem dX11_stay_29 : decode cX11_stay 29 = .ok (.getfield 56, 3) := by decide +kernel
theorem dX11_stay_32 : decode cX11_stay 32 = .ok (.aload_n 0, 1) := by decide +kernel
theorem dX11_stay_33 : decode cX11_stay 33 = .ok (.getfield 63, 3) := by decide +kernel
theorem dX11_stay_36 : decode cX11_stay 36 = .ok (.invokevirtual 239, 3) := by decide +kernel
theorem dX11_stay_39 : decode cX11_stay 39 = .ok (.aload_n 0, 1) := by decide +kernel
theorem dX11_stay_40 : decode cX11_stay 40 = .ok (.iload_n 1, 1) := by decide +kernel
theorem dX11_stay_41 : decode cX11_stay 41 = .ok (.invokevirtual 249, 3) := by decide +kernel
theorem dX11_stay_44 : decode cX11_stay 44 = .ok (.aload_n 0, 1) := by decide +kernel
theorem dX11_stay_45 : decode cX11_stay 45 = .ok (.getfield 56, 3) := by decide +kernel
theorem dX11_stay_48 : decode cX11_stay 48 = .ok (.getfield 183, 3) := by decide +kernel
theorem dX11_stay_51 : decode cX11_stay 51 = .ok (.iload_n 1, 1) := by decide +kernel
theorem dX11_stay_52 : decode cX11_stay 52 = .ok (.iaload, 1) := by decide +kernel
theorem dX11_stay_53 : decode cX11_stay 53 = .ok (.ireturn, 1) := by decide +kernel
theorem dX11_press_0 : decode cX11_press 0 = .ok (.aload_n 0, 1) := by decide +kernel
theorem dX11_press_1 : decode cX11_press 1 = .ok (.getfield 56, 3) := by decide +kernel
theorem dX11_press_4 : decode cX11_press 4 = .ok (.iload_n 1, 1) := by decide +kernel
theorem dX11_press_5 : decode cX11_press 5 = .ok (.invokevirtual 233, 3) := by decide +kernel
theorem dX11_press_8 : decode cX11_press 8 = .ok (.ifCond .eq 26, 3) := by decide +kernel
theorem dX11_press_11 : decode cX11_press 11 = .ok (.aload_n 0, 1) := by decide +kernel
theorem dX11_press_12 : decode cX11_press 12 = .ok (.getfield 19, 3) := by decide +kernel
theorem dX11_press_15 : decode cX11_press 15 = .ok (.iload_n 2, 1) := by decide +kernel
theorem dX11_press_16 : decode cX11_press 16 = .ok (.invokevirtual 154, 3) := by decide +kernel
theorem dX11_press_19 : decode cX11_press 19 = .ok (.ifCond .eq 15, 3) := by decide +kernel
theorem dX11_press_22 : decode cX11_press 22 = .ok (.aload_n 0, 1) := by decide +kernel
theorem dX11_press_23 : decode cX11_press 23 = .ok (.getfield 56, 3) := by decide +kernel
theorem dX11_press_26 : decode cX11_press 26 = .ok (.iload_n 1, 1) := by decide +kernel
theorem dX11_press_27 : decode cX11_press 27 = .ok (.iload_n 2, 1) := by decide +kernel
theorem dX11_press_28 : decode cX11_press 28 = .ok (.invokevirtual 252, 3) := by decide +kernel
theorem dX11_press_31 : decode cX11_press 31 = .ok (.ifCond .ne 5, 3) := by decide +kernel
theorem dX11_press_34 : decode cX11_press 34 = .ok (.iconst (-1), 1) := by decide +kernel
theorem dX11_press_35 : decode cX11_press 35 = .ok (.ireturn, 1) := by decide +kernel
theorem dX11_press_36 : decode cX11_press 36 = .ok (.aload_n 0, 1) := by decide +kernel
theorem dX11_press_37 : decode cX11_press 37 = .ok (.getfield 70, 3) := by decide +kernel
theorem dX11_press_40 : decode cX11_press 40 = .ok (.aload_n 0, 1) := by decide +kernel
theorem dX11_press_41 : decode cX11_press 41 = .ok (.getfield 56, 3) := by decide +kernel
theorem dX11_press_44 : decode cX11_press 44 = .ok (.aload_n 0, 1) := by decide +kernel
theorem dX11_press_45 : decode cX11_press 45 = .ok (.getfield 63, 3) := by decide +kernel
theorem dX11_press_48 : decode cX11_press 48 = .ok (.invokevirtual 239, 3) := by decide +kernel
theorem dX11_press_51 : decode cX11_press 51 = .ok (.aload_n 0, 1) := by decide +kernel
theorem dX11_press_52 : decode cX11_press 52 = .ok (.iload_n 1, 1) := by decide +kernel
theorem dX11_press_53 : decode cX11_press 53 = .ok (.iload_n 2, 1) := by decide +kernel
theorem dX11_press_54 : decode cX11_press 54 = .ok (.invokevirtual 256, 3) := by decide +kernel
theorem dX11_press_57 : decode cX11_press 57 = .ok (.aload_n 0, 1) := by decide +kernel
theorem dX11_press_58 : decode cX11_press 58 = .ok (.getfield 56, 3) := by decide +kernel
theorem dX11_press_61 : decode cX11_press 61 = .ok (.getfield 168, 3) := by decide +kernel
theorem dX11_press_64 : decode cX11_press 64 = .ok (.iload_n 2, 1) := by decide +kernel
theorem dX11_press_65 : decode cX11_press 65 = .ok (.iaload, 1) := by decide +kernel
theorem dX11_press_66 : decode cX11_press 66 = .ok (.ireturn, 1) := by decide +kernel
theorem dX11_doGo_0 : decode cX11_doGo 0 = .ok (.aload_n 0, 1) := by decide +kernel
theorem dX11_doGo_1 : decode cX11_doGo 1 = .ok (.getfield 56, 3) := by decide +kernel
theorem dX11_doGo_4 : decode cX11_doGo 4 = .ok (.iload_n 1, 1) := by decide +kernel
theorem dX11_doGo_5 : decode cX11_doGo 5 = .ok (.iconst 1, 1) := by decide +kernel
theorem dX11_doGo_6 : decode cX11_doGo 6 = .ok (.invokevirtual 260, 3) := by decide +kernel
theorem dX11_doGo_9 : decode cX11_doGo 9 = .ok (.aload_n 0, 1) := by decide +kernel
theorem dX11_doGo_10 : decode cX11_doGo 10 = .ok (.getfield 56, 3) := by decide +kernel
theorem dX11_doGo_13 : decode cX11_doGo 13 = .ok (.iload_n 1, 1) := by decide +kernel
theorem dX11_doGo_14 : decode cX11_doGo 14 = .ok (.invokevirtual 263, 3) := by decide +kernel
theorem dX11_doGo_17 : decode cX11_doGo 17 = .ok (.aload_n 0, 1) := by decide +kernel
theorem dX11_doGo_18 : decode cX11_doGo 18 = .ok (.getfield 63, 3) := by decide +kernel
theorem dX11_doGo_21 : decode cX11_doGo 21 = .ok (.iconst 0, 1) := by decide +kernel
theorem dX11_doGo_22 : decode cX11_doGo 22 = .ok (.iload_n 1, 1) := by decide +kernel
theorem dX11_doGo_23 : decode cX11_doGo 23 = .ok (.iconst (-1), 1) := by decide +kernel
theorem dX11_doGo_24 : decode cX11_doGo 24 = .ok (.invokevirtual 266, 3) := by decide +kernel
theorem dX11_doGo_27 : decode cX11_doGo 27 = .ok (.return_, 1) := by decide +kernel
theorem dX11_doStay_0 : decode cX11_doStay 0 = .ok (.aload_n 0, 1) := by decide +kernel
theorem dX11_doStay_1 : decode cX11_doStay 1 = .ok (.getfield 56, 3) := by decide +kernel
theorem dX11_doStay_4 : decode cX11_doStay 4 = .ok (.iload_n 1, 1) := by decide +kernel
theorem dX11_doStay_5 : decode cX11_doStay 5 = .ok (.invokevirtual 269, 3) := by decide +kernel
theorem dX11_doStay_8 : decode cX11_doStay 8 = .ok (.aload_n 0, 1) := by decide +kernel
theorem dX11_doStay_9 : decode cX11_doStay 9 = .ok (.getfield 56, 3) := by decide +kernel
theorem dX11_doStay_12 : decode cX11_doStay 12 = .ok (.iload_n 1, 1) := by decide +kernel
theorem dX11_doStay_13 : decode cX11_doStay 13 = .ok (.invokevirtual 263, 3) := by decide +kernel
theorem dX11_doStay_16 : decode cX11_doStay 16 = .ok (.aload_n 0, 1) := by decide +kernel
theorem dX11_doStay_17 : decode cX11_doStay 17 = .ok (.getfield 63, 3) := by decide +kernel
theorem dX11_doStay_20 : decode cX11_doStay 20 = .ok (.iconst 1, 1) := by decide +kernel
theorem dX11_doStay_21 : decode cX11_doStay 21 = .ok (.iload_n 1, 1) := by decide +kernel
theorem dX11_doStay_22 : decode cX11_doStay 22 = .ok (.iconst (-1), 1) := by decide +kernel
theorem dX11_doStay_23 : decode cX11_doStay 23 = .ok (.invokevirtual 266, 3) := by decide +kernel
theorem dX11_doStay_26 : decode cX11_doStay 26 = .ok (.return_, 1) := by decide +kernel
theorem dX11_doPress_0 : decode cX11_doPress 0 = .ok (.aload_n 0, 1) := by decide +kernel
theorem dX11_doPress_1 : decode cX11_doPress 1 = .ok (.getfield 56, 3) := by decide +kernel
theorem dX11_doPress_4 : decode cX11_doPress 4 = .ok (.iload_n 1, 1) := by decide +kernel
theorem dX11_doPress_5 : decode cX11_doPress 5 = .ok (.invokevirtual 269, 3) := by decide +kernel
theorem dX11_doPress_8 : decode cX11_doPress 8 = .ok (.aload_n 0, 1) := by decide +kernel
theorem dX11_doPress_9 : decode cX11_doPress 9 = .ok (.getfield 56, 3) := by decide +kernel
theorem dX11_doPress_12 : decode cX11_doPress 12 = .ok (.iload_n 2, 1) := by decide +kernel
theorem dX11_doPress_13 : decode cX11_doPress 13 = .ok (.aload_n 0, 1) := by decide +kernel
theorem dX11_doPress_14 : decode cX11_doPress 14 = .ok (.getfield 19, 3) := by decide +kernel
theorem dX11_doPress_17 : decode cX11_doPress 17 = .ok (.getfield 171, 3) := by decide +kernel
theorem dX11_doPress_20 : decode cX11_doPress 20 = .ok (.iload_n 1, 1) := by decide +kernel
theorem dX11_doPress_21 : decode cX11_doPress 21 = .ok (.iaload, 1) := by decide +kernel
theorem dX11_doPress_22 : decode cX11_doPress 22 = .ok (.invokevirtual 260, 3) := by decide +kernel
theorem dX11_doPress_25 : decode cX11_doPress 25 = .ok (.aload_n 0, 1) := by decide +kernel
theorem dX11_doPress_26 : decode cX11_doPress 26 = .ok (.getfield 56, 3) := by decide +kernel
theorem dX11_doPress_29 : decode cX11_doPress 29 = .ok (.iload_n 1, 1) := by decide +kernel
theorem dX11_doPress_30 : decode cX11_doPress 30 = .ok (.invokevirtual 263, 3) := by decide +kernel
theorem dX11_doPress_33 : decode cX11_doPress 33 = .ok (.aload_n 0, 1) := by decide +kernel
theorem dX11_doPress_34 : decode cX11_doPress 34 = .ok (.getfield 63, 3) := by decide +kernel
theorem dX11_doPress_37 : decode cX11_doPress 37 = .ok (.iconst 2, 1) := by decide +kernel
theorem dX11_doPress_38 : decode cX11_doPress 38 = .ok (.iload_n 1, 1) := by decide +kernel
theorem dX11_doPress_39 : decode cX11_doPress 39 = .ok (.iload_n 2, 1) := by decide +kernel
theorem dX11_doPress_40 : decode cX11_doPress 40 = .ok (.invokevirtual 266, 3) := by decide +kernel
theorem dX11_doPress_43 : decode cX11_doPress 43 = .ok (.return_, 1) := by decide +kernel
theorem dX11_evening_0 : decode cX11_evening 0 = .ok (.aload_n 0, 1) := by decide +kernel
theorem dX11_evening_1 : decode cX11_evening 1 = .ok (.getfield 19, 3) := by decide +kernel
theorem dX11_evening_4 : decode cX11_evening 4 = .ok (.getfield 151, 3) := by decide +kernel
theorem dX11_evening_7 : decode cX11_evening 7 = .ok (.ifCond .eq 26, 3) := by decide +kernel
theorem dX11_evening_10 : decode cX11_evening 10 = .ok (.aload_n 0, 1) := by decide +kernel
theorem dX11_evening_11 : decode cX11_evening 11 = .ok (.getfield 56, 3) := by decide +kernel
theorem dX11_evening_14 : decode cX11_evening 14 = .ok (.invokevirtual 272, 3) := by decide +kernel
theorem dX11_evening_17 : decode cX11_evening 17 = .ok (.ifCond .ne 16, 3) := by decide +kernel
theorem dX11_evening_20 : decode cX11_evening 20 = .ok (.aload_n 0, 1) := by decide +kernel
theorem dX11_evening_21 : decode cX11_evening 21 = .ok (.getfield 56, 3) := by decide +kernel
theorem dX11_evening_24 : decode cX11_evening 24 = .ok (.getfield 215, 3) := by decide +kernel
theorem dX11_evening_27 : decode cX11_evening 27 = .ok (.sipush 9999, 3) := by decide +kernel
theorem dX11_evening_30 : decode cX11_evening 30 = .ok (.if_icmp .lt 5, 3) := by decide +kernel
theorem dX11_evening_33 : decode cX11_evening 33 = .ok (.iconst (-1), 1) := by decide +kernel
theorem dX11_evening_34 : decode cX11_evening 34 = .ok (.ireturn, 1) := by decide +kernel
theorem dX11_evening_35 : decode cX11_evening 35 = .ok (.aload_n 0, 1) := by decide +kernel
theorem dX11_evening_36 : decode cX11_evening 36 = .ok (.getfield 70, 3) := by decide +kernel
theorem dX11_evening_39 : decode cX11_evening 39 = .ok (.aload_n 0, 1) := by decide +kernel
theorem dX11_evening_40 : decode cX11_evening 40 = .ok (.getfield 56, 3) := by decide +kernel
theorem dX11_evening_43 : decode cX11_evening 43 = .ok (.aload_n 0, 1) := by decide +kernel
theorem dX11_evening_44 : decode cX11_evening 44 = .ok (.getfield 63, 3) := by decide +kernel
theorem dX11_evening_47 : decode cX11_evening 47 = .ok (.invokevirtual 239, 3) := by decide +kernel
theorem dX11_evening_50 : decode cX11_evening 50 = .ok (.iconst 0, 1) := by decide +kernel
theorem dX11_evening_51 : decode cX11_evening 51 = .ok (.istore_n 1, 1) := by decide +kernel
theorem dX11_evening_52 : decode cX11_evening 52 = .ok (.iload_n 1, 1) := by decide +kernel
theorem dX11_evening_53 : decode cX11_evening 53 = .ok (.aload_n 0, 1) := by decide +kernel
theorem dX11_evening_54 : decode cX11_evening 54 = .ok (.getfield 19, 3) := by decide +kernel
theorem dX11_evening_57 : decode cX11_evening 57 = .ok (.getfield 151, 3) := by decide +kernel
theorem dX11_evening_60 : decode cX11_evening 60 = .ok (.if_icmp .ge 61, 3) := by decide +kernel
theorem dX11_evening_63 : decode cX11_evening 63 = .ok (.aload_n 0, 1) := by decide +kernel
theorem dX11_evening_64 : decode cX11_evening 64 = .ok (.getfield 56, 3) := by decide +kernel
theorem dX11_evening_67 : decode cX11_evening 67 = .ok (.invokevirtual 272, 3) := by decide +kernel
theorem dX11_evening_70 : decode cX11_evening 70 = .ok (.ifCond .ne 51, 3) := by decide +kernel
theorem dX11_evening_73 : decode cX11_evening 73 = .ok (.aload_n 0, 1) := by decide +kernel
theorem dX11_evening_74 : decode cX11_evening 74 = .ok (.getfield 56, 3) := by decide +kernel
theorem dX11_evening_77 : decode cX11_evening 77 = .ok (.iload_n 1, 1) := by decide +kernel
theorem dX11_evening_78 : decode cX11_evening 78 = .ok (.invokevirtual 189, 3) := by decide +kernel
theorem dX11_evening_81 : decode cX11_evening 81 = .ok (.ifCond .ne 34, 3) := by decide +kernel
theorem dX11_evening_84 : decode cX11_evening 84 = .ok (.aload_n 0, 1) := by decide +kernel
theorem dX11_evening_85 : decode cX11_evening 85 = .ok (.getfield 56, 3) := by decide +kernel
theorem dX11_evening_88 : decode cX11_evening 88 = .ok (.iload_n 1, 1) := by decide +kernel
theorem dX11_evening_89 : decode cX11_evening 89 = .ok (.invokevirtual 186, 3) := by decide +kernel
theorem dX11_evening_92 : decode cX11_evening 92 = .ok (.ifCond .ne 23, 3) := by decide +kernel
theorem dX11_evening_95 : decode cX11_evening 95 = .ok (.aload_n 0, 1) := by decide +kernel
theorem dX11_evening_96 : decode cX11_evening 96 = .ok (.getfield 56, 3) := by decide +kernel
theorem dX11_evening_99 : decode cX11_evening 99 = .ok (.iload_n 1, 1) := by decide +kernel
theorem dX11_evening_100 : decode cX11_evening 100 = .ok (.invokevirtual 236, 3) := by decide +kernel
theorem dX11_evening_103 : decode cX11_evening 103 = .ok (.ifCond .eq 12, 3) := by decide +kernel
theorem dX11_evening_106 : decode cX11_evening 106 = .ok (.aload_n 0, 1) := by decide +kernel
theorem dX11_evening_107 : decode cX11_evening 107 = .ok (.getfield 56, 3) := by decide +kernel
theorem dX11_evening_110 : decode cX11_evening 110 = .ok (.iload_n 1, 1) := by decide +kernel
theorem dX11_evening_111 : decode cX11_evening 111 = .ok (.iconst 1, 1) := by decide +kernel
theorem dX11_evening_112 : decode cX11_evening 112 = .ok (.invokevirtual 260, 3) := by decide +kernel
theorem dX11_evening_115 : decode cX11_evening 115 = .ok (.iinc 1 1, 3) := by decide +kernel
theorem dX11_evening_118 : decode cX11_evening 118 = .ok (.goto (-66), 3) := by decide +kernel
theorem dX11_evening_121 : decode cX11_evening 121 = .ok (.aload_n 0, 1) := by decide +kernel
theorem dX11_evening_122 : decode cX11_evening 122 = .ok (.invokevirtual 276, 3) := by decide +kernel
theorem dX11_evening_125 : decode cX11_evening 125 = .ok (.aload_n 0, 1) := by decide +kernel
theorem dX11_evening_126 : decode cX11_evening 126 = .ok (.getfield 56, 3) := by decide +kernel
theorem dX11_evening_129 : decode cX11_evening 129 = .ok (.getfield 215, 3) := by decide +kernel
theorem dX11_evening_132 : decode cX11_evening 132 = .ok (.ireturn, 1) := by decide +kernel
theorem dX11_endDay_0 : decode cX11_endDay 0 = .ok (.aload_n 0, 1) := by decide +kernel
theorem dX11_endDay_1 : decode cX11_endDay 1 = .ok (.getfield 56, 3) := by decide +kernel
theorem dX11_endDay_4 : decode cX11_endDay 4 = .ok (.invokevirtual 279, 3) := by decide +kernel
theorem dX11_endDay_7 : decode cX11_endDay 7 = .ok (.aload_n 0, 1) := by decide +kernel
theorem dX11_endDay_8 : decode cX11_endDay 8 = .ok (.getfield 63, 3) := by decide +kernel
theorem dX11_endDay_11 : decode cX11_endDay 11 = .ok (.iconst 3, 1) := by decide +kernel
theorem dX11_endDay_12 : decode cX11_endDay 12 = .ok (.iconst (-1), 1) := by decide +kernel
theorem dX11_endDay_13 : decode cX11_endDay 13 = .ok (.iconst (-1), 1) := by decide +kernel
theorem dX11_endDay_14 : decode cX11_endDay 14 = .ok (.invokevirtual 266, 3) := by decide +kernel
theorem dX11_endDay_17 : decode cX11_endDay 17 = .ok (.return_, 1) := by decide +kernel
theorem dX11_march_0 : decode cX11_march 0 = .ok (.aload_n 0, 1) := by decide +kernel
theorem dX11_march_1 : decode cX11_march 1 = .ok (.getfield 19, 3) := by decide +kernel
theorem dX11_march_4 : decode cX11_march 4 = .ok (.getfield 151, 3) := by decide +kernel
theorem dX11_march_7 : decode cX11_march 7 = .ok (.ifCond .eq 14, 3) := by decide +kernel
theorem dX11_march_10 : decode cX11_march 10 = .ok (.iload_n 1, 1) := by decide +kernel
theorem dX11_march_11 : decode cX11_march 11 = .ok (.iconst 1, 1) := by decide +kernel
theorem dX11_march_12 : decode cX11_march 12 = .ok (.if_icmp .lt 9, 3) := by decide +kernel
theorem dX11_march_15 : decode cX11_march 15 = .ok (.iload_n 1, 1) := by decide +kernel
theorem dX11_march_16 : decode cX11_march 16 = .ok (.bipush 60, 2) := by decide +kernel
theorem dX11_march_18 : decode cX11_march 18 = .ok (.if_icmp .le 5, 3) := by decide +kernel
theorem dX11_march_21 : decode cX11_march 21 = .ok (.iconst (-1), 1) := by decide +kernel
theorem dX11_march_22 : decode cX11_march 22 = .ok (.ireturn, 1) := by decide +kernel
theorem dX11_march_23 : decode cX11_march 23 = .ok (.aload_n 0, 1) := by decide +kernel
theorem dX11_march_24 : decode cX11_march 24 = .ok (.getfield 56, 3) := by decide +kernel
theorem dX11_march_27 : decode cX11_march 27 = .ok (.invokevirtual 272, 3) := by decide +kernel
theorem dX11_march_30 : decode cX11_march 30 = .ok (.ifCond .ne 18, 3) := by decide +kernel
theorem dX11_march_33 : decode cX11_march 33 = .ok (.aload_n 0, 1) := by decide +kernel
theorem dX11_march_34 : decode cX11_march 34 = .ok (.getfield 56, 3) := by decide +kernel
theorem dX11_march_37 : decode cX11_march 37 = .ok (.getfield 215, 3) := by decide +kernel
theorem dX11_march_40 : decode cX11_march 40 = .ok (.iload_n 1, 1) := by decide +kernel
theorem dX11_march_41 : decode cX11_march 41 = .ok (.iadd, 1) := by decide +kernel
theorem dX11_march_42 : decode cX11_march 42 = .ok (.sipush 9999, 3) := by decide +kernel
theorem dX11_march_45 : decode cX11_march 45 = .ok (.if_icmp .le 5, 3) := by decide +kernel
theorem dX11_march_48 : decode cX11_march 48 = .ok (.iconst (-1), 1) := by decide +kernel
theorem dX11_march_49 : decode cX11_march 49 = .ok (.ireturn, 1) := by decide +kernel
theorem dX11_march_50 : decode cX11_march 50 = .ok (.aload_n 0, 1) := by decide +kernel
theorem dX11_march_51 : decode cX11_march 51 = .ok (.lload_n 2, 1) := by decide +kernel
theorem dX11_march_52 : decode cX11_march 52 = .ok (.putfield 105, 3) := by decide +kernel
theorem dX11_march_55 : decode cX11_march 55 = .ok (.iconst 0, 1) := by decide +kernel
theorem dX11_march_56 : decode cX11_march 56 = .ok (.istore 4, 2) := by decide +kernel
theorem dX11_march_58 : decode cX11_march 58 = .ok (.iload 4, 2) := by decide +kernel
theorem dX11_march_60 : decode cX11_march 60 = .ok (.iload_n 1, 1) := by decide +kernel
theorem dX11_march_61 : decode cX11_march 61 = .ok (.if_icmp .ge 99, 3) := by decide +kernel
theorem dX11_march_64 : decode cX11_march 64 = .ok (.aload_n 0, 1) := by decide +kernel
theorem dX11_march_65 : decode cX11_march 65 = .ok (.getfield 56, 3) := by decide +kernel
theorem dX11_march_68 : decode cX11_march 68 = .ok (.invokevirtual 272, 3) := by decide +kernel
theorem dX11_march_71 : decode cX11_march 71 = .ok (.ifCond .ne 89, 3) := by decide +kernel
theorem dX11_march_74 : decode cX11_march 74 = .ok (.aload_n 0, 1) := by decide +kernel
theorem dX11_march_75 : decode cX11_march 75 = .ok (.getfield 70, 3) := by decide +kernel
theorem dX11_march_78 : decode cX11_march 78 = .ok (.aload_n 0, 1) := by decide +kernel
theorem dX11_march_79 : decode cX11_march 79 = .ok (.getfield 56, 3) := by decide +kernel
theorem dX11_march_82 : decode cX11_march 82 = .ok (.aload_n 0, 1) := by decide +kernel
theorem dX11_march_83 : decode cX11_march 83 = .ok (.getfield 63, 3) := by decide +kernel
theorem dX11_march_86 : decode cX11_march 86 = .ok (.invokevirtual 239, 3) := by decide +kernel
theorem dX11_march_89 : decode cX11_march 89 = .ok (.iconst 0, 1) := by decide +kernel
theorem dX11_march_90 : decode cX11_march 90 = .ok (.istore 5, 2) := by decide +kernel
theorem dX11_march_92 : decode cX11_march 92 = .ok (.iload 5, 2) := by decide +kernel
theorem dX11_march_94 : decode cX11_march 94 = .ok (.aload_n 0, 1) := by decide +kernel
theorem dX11_march_95 : decode cX11_march 95 = .ok (.getfield 19, 3) := by decide +kernel
theorem dX11_march_98 : decode cX11_march 98 = .ok (.getfield 151, 3) := by decide +kernel
theorem dX11_march_101 : decode cX11_march 101 = .ok (.if_icmp .ge 49, 3) := by decide +kernel
theorem dX11_march_104 : decode cX11_march 104 = .ok (.aload_n 0, 1) := by decide +kernel
theorem dX11_march_105 : decode cX11_march 105 = .ok (.getfield 56, 3) := by decide +kernel
theorem dX11_march_108 : decode cX11_march 108 = .ok (.invokevirtual 272, 3) := by decide +kernel
theorem dX11_march_111 : decode cX11_march 111 = .ok (.ifCond .ne 39, 3) := by decide +kernel
theorem dX11_march_114 : decode cX11_march 114 = .ok (.aload_n 0, 1) := by decide +kernel
theorem dX11_march_115 : decode cX11_march 115 = .ok (.getfield 56, 3) := by decide +kernel
theorem dX11_march_118 : decode cX11_march 118 = .ok (.iload 5, 2) := by decide +kernel
theorem dX11_march_120 : decode cX11_march 120 = .ok (.invokevirtual 189, 3) := by decide +kernel
theorem dX11_march_123 : decode cX11_march 123 = .ok (.ifCond .ne 21, 3) := by decide +kernel
theorem dX11_march_126 : decode cX11_march 126 = .ok (.aload_n 0, 1) := by decide +kernel
theorem dX11_march_127 : decode cX11_march 127 = .ok (.getfield 56, 3) := by decide +kernel
theorem dX11_march_130 : decode cX11_march 130 = .ok (.iload 5, 2) := by decide +kernel
theorem dX11_march_132 : decode cX11_march 132 = .ok (.invokevirtual 186, 3) := by decide +kernel
theorem dX11_march_135 : decode cX11_march 135 = .ok (.ifCond .ne 9, 3) := by decide +kernel
theorem dX11_march_138 : decode cX11_march 138 = .ok (.aload_n 0, 1) := by decide +kernel
theorem dX11_march_139 : decode cX11_march 139 = .ok (.iload 5, 2) := by decide +kernel
theorem dX11_march_141 : decode cX11_march 141 = .ok (.invokevirtual 282, 3) := by decide +kernel
theorem dX11_march_144 : decode cX11_march 144 = .ok (.iinc 5 1, 3) := by decide +kernel
theorem dX11_march_147 : decode cX11_march 147 = .ok (.goto (-55), 3) := by decide +kernel
theorem dX11_march_150 : decode cX11_march 150 = .ok (.aload_n 0, 1) := by decide +kernel
theorem dX11_march_151 : decode cX11_march 151 = .ok (.invokevirtual 276, 3) := by decide +kernel
theorem dX11_march_154 : decode cX11_march 154 = .ok (.iinc 4 1, 3) := by decide +kernel
theorem dX11_march_157 : decode cX11_march 157 = .ok (.goto (-99), 3) := by decide +kernel
theorem dX11_march_160 : decode cX11_march 160 = .ok (.aload_n 0, 1) := by decide +kernel
theorem dX11_march_161 : decode cX11_march 161 = .ok (.getfield 56, 3) := by decide +kernel
theorem dX11_march_164 : decode cX11_march 164 = .ok (.getfield 215, 3) := by decide +kernel
theorem dX11_march_167 : decode cX11_march 167 = .ok (.ireturn, 1) := by decide +kernel
theorem dX11_marchOneMan_0 : decode cX11_marchOneMan 0 = .ok (.aload_n 0, 1) := by decide +kernel
theorem dX11_marchOneMan_1 : decode cX11_marchOneMan 1 = .ok (.bipush 10, 2) := by decide +kernel
theorem dX11_marchOneMan_3 : decode cX11_marchOneMan 3 = .ok (.invokevirtual 285, 3) := by decide +kernel
theorem dX11_marchOneMan_6 : decode cX11_marchOneMan 6 = .ok (.aload_n 0, 1) := by decide +kernel
theorem dX11_marchOneMan_7 : decode cX11_marchOneMan 7 = .ok (.getfield 19, 3) := by decide +kernel
theorem dX11_marchOneMan_10 : decode cX11_marchOneMan 10 = .ok (.getfield 180, 3) := by decide +kernel
theorem dX11_marchOneMan_13 : decode cX11_marchOneMan 13 = .ok (.iload_n 1, 1) := by decide +kernel
theorem dX11_marchOneMan_14 : decode cX11_marchOneMan 14 = .ok (.iaload, 1) := by decide +kernel
theorem dX11_marchOneMan_15 : decode cX11_marchOneMan 15 = .ok (.if_icmp .ge 4, 3) := by decide +kernel
theorem dX11_marchOneMan_18 : decode cX11_marchOneMan 18 = .ok (.return_, 1) := by decide +kernel
theorem dX11_marchOneMan_19 : decode cX11_marchOneMan 19 = .ok (.aload_n 0, 1) := by decide +kernel
theorem dX11_marchOneMan_20 : decode cX11_marchOneMan 20 = .ok (.iconst 3, 1) := by decide +kernel
theorem dX11_marchOneMan_21 : decode cX11_marchOneMan 21 = .ok (.invokevirtual 285, 3) := by decide +kernel
theorem dX11_marchOneMan_24 : decode cX11_marchOneMan 24 = .ok (.istore_n 2, 1) := by decide +kernel
theorem dX11_marchOneMan_25 : decode cX11_marchOneMan 25 = .ok (.iload_n 2, 1) := by decide +kernel
theorem dX11_marchOneMan_26 : decode cX11_marchOneMan 26 = .ok (.ifCond .ne 19, 3) := by decide +kernel
theorem dX11_marchOneMan_29 : decode cX11_marchOneMan 29 = .ok (.aload_n 0, 1) := by decide +kernel
theorem dX11_marchOneMan_30 : decode cX11_marchOneMan 30 = .ok (.getfield 56, 3) := by decide +kernel
theorem dX11_marchOneMan_33 : decode cX11_marchOneMan 33 = .ok (.iload_n 1, 1) := by decide +kernel
theorem dX11_marchOneMan_34 : decode cX11_marchOneMan 34 = .ok (.invokevirtual 236, 3) := by decide +kernel
theorem dX11_marchOneMan_37 : decode cX11_marchOneMan 37 = .ok (.ifCond .eq 8, 3) := by decide +kernel
theorem dX11_marchOneMan_40 : decode cX11_marchOneMan 40 = .ok (.aload_n 0, 1) := by decide +kernel
theorem dX11_marchOneMan_41 : decode cX11_marchOneMan 41 = .ok (.iload_n 1, 1) := by decide +kernel
theorem dX11_marchOneMan_42 : decode cX11_marchOneMan 42 = .ok (.invokevirtual 243, 3) := by decide +kernel
theorem dX11_marchOneMan_45 : decode cX11_marchOneMan 45 = .ok (.iload_n 2, 1) := by decide +kernel
theorem dX11_marchOneMan_46 : decode cX11_marchOneMan 46 = .ok (.iconst 1, 1) := by decide +kernel
theorem dX11_marchOneMan_47 : decode cX11_marchOneMan 47 = .ok (.if_icmp .ne 19, 3) := by decide +kernel
theorem dX11_marchOneMan_50 : decode cX11_marchOneMan 50 = .ok (.aload_n 0, 1) := by decide +kernel
theorem dX11_marchOneMan_51 : decode cX11_marchOneMan 51 = .ok (.getfield 56, 3) := by decide +kernel
theorem dX11_marchOneMan_54 : decode cX11_marchOneMan 54 = .ok (.iload_n 1, 1) := by decide +kernel
theorem dX11_marchOneMan_55 : decode cX11_marchOneMan 55 = .ok (.invokevirtual 246, 3) := by decide +kernel
theorem dX11_marchOneMan_58 : decode cX11_marchOneMan 58 = .ok (.ifCond .eq 8, 3) := by decide +kernel
theorem dX11_marchOneMan_61 : decode cX11_marchOneMan 61 = .ok (.aload_n 0, 1) := by decide +kernel
theorem dX11_marchOneMan_62 : decode cX11_marchOneMan 62 = .ok (.iload_n 1, 1) := by decide +kernel
theorem dX11_marchOneMan_63 : decode cX11_marchOneMan 63 = .ok (.invokevirtual 249, 3) := by decide +kernel
theorem dX11_marchOneMan_66 : decode cX11_marchOneMan 66 = .ok (.iload_n 2, 1) := by decide +kernel
theorem dX11_marchOneMan_67 : decode cX11_marchOneMan 67 = .ok (.iconst 2, 1) := by decide +kernel
theorem dX11_marchOneMan_68 : decode cX11_marchOneMan 68 = .ok (.if_icmp .ne 14, 3) := by decide +kernel
theorem dX11_marchOneMan_71 : decode cX11_marchOneMan 71 = .ok (.aload_n 0, 1) := by decide +kernel
theorem dX11_marchOneMan_72 : decode cX11_marchOneMan 72 = .ok (.getfield 56, 3) := by decide +kernel
theorem dX11_marchOneMan_75 : decode cX11_marchOneMan 75 = .ok (.iload_n 1, 1) := by decide +kernel
theorem dX11_marchOneMan_76 : decode cX11_marchOneMan 76 = .ok (.invokevirtual 288, 3) := by decide +kernel
theorem dX11_marchOneMan_79 : decode cX11_marchOneMan 79 = .ok (.goto 4, 3) := by decide +kernel
theorem dX11_marchOneMan_82 : decode cX11_marchOneMan 82 = .ok (.iconst (-1), 1) := by decide +kernel
theorem dX11_marchOneMan_83 : decode cX11_marchOneMan 83 = .ok (.istore_n 3, 1) := by decide +kernel
theorem dX11_marchOneMan_84 : decode cX11_marchOneMan 84 = .ok (.iload_n 3, 1) := by decide +kernel
theorem dX11_marchOneMan_85 : decode cX11_marchOneMan 85 = .ok (.iconst (-1), 1) := by decide +kernel
theorem dX11_marchOneMan_86 : decode cX11_marchOneMan 86 = .ok (.if_icmp .eq 9, 3) := by decide +kernel
theorem dX11_marchOneMan_89 : decode cX11_marchOneMan 89 = .ok (.aload_n 0, 1) := by decide +kernel
theorem dX11_marchOneMan_90 : decode cX11_marchOneMan 90 = .ok (.iload_n 1, 1) := by decide +kernel
theorem dX11_marchOneMan_91 : decode cX11_marchOneMan 91 = .ok (.iload_n 3, 1) := by decide +kernel
theorem dX11_marchOneMan_92 : decode cX11_marchOneMan 92 = .ok (.invokevirtual 256, 3) := by decide +kernel
theorem dX11_marchOneMan_95 : decode cX11_marchOneMan 95 = .ok (.return_, 1) := by decide +kernel
theorem dX11_draw_0 : decode cX11_draw 0 = .ok (.aload_n 0, 1) := by decide +kernel
theorem dX11_draw_1 : decode cX11_draw 1 = .ok (.aload_n 0, 1) := by decide +kernel
theorem dX11_draw_2 : decode cX11_draw 2 = .ok (.getfield 105, 3) := by decide +kernel
theorem dX11_draw_5 : decode cX11_draw 5 = .ok (.ldc2_w 291, 3) := by decide +kernel
theorem dX11_draw_8 : decode cX11_draw 8 = .ok (.lmul, 1) := by decide +kernel
theorem dX11_draw_9 : decode cX11_draw 9 = .ok (.ldc2_w 293, 3) := by decide +kernel
theorem dX11_draw_12 : decode cX11_draw 12 = .ok (.ladd, 1) := by decide +kernel
theorem dX11_draw_13 : decode cX11_draw 13 = .ok (.putfield 105, 3) := by decide +kernel
theorem dX11_draw_16 : decode cX11_draw 16 = .ok (.iload_n 1, 1) := by decide +kernel
theorem dX11_draw_17 : decode cX11_draw 17 = .ok (.ifCond .gt 7, 3) := by decide +kernel
theorem dX11_draw_20 : decode cX11_draw 20 = .ok (.iconst 0, 1) := by decide +kernel
theorem dX11_draw_21 : decode cX11_draw 21 = .ok (.goto 14, 3) := by decide +kernel
theorem dX11_draw_24 : decode cX11_draw 24 = .ok (.aload_n 0, 1) := by decide +kernel
theorem dX11_draw_25 : decode cX11_draw 25 = .ok (.getfield 105, 3) := by decide +kernel
theorem dX11_draw_28 : decode cX11_draw 28 = .ok (.bipush 33, 2) := by decide +kernel
theorem dX11_draw_30 : decode cX11_draw 30 = .ok (.lushr, 1) := by decide +kernel
theorem dX11_draw_31 : decode cX11_draw 31 = .ok (.iload_n 1, 1) := by decide +kernel
theorem dX11_draw_32 : decode cX11_draw 32 = .ok (.i2l, 1) := by decide +kernel
theorem dX11_draw_33 : decode cX11_draw 33 = .ok (.lrem, 1) := by decide +kernel
theorem dX11_draw_34 : decode cX11_draw 34 = .ok (.l2i, 1) := by decide +kernel
theorem dX11_draw_35 : decode cX11_draw 35 = .ok (.ireturn, 1) := by decide +kernel
theorem dX11_undo_0 : decode cX11_undo 0 = .ok (.aload_n 0, 1) := by decide +kernel
theorem dX11_undo_1 : decode cX11_undo 1 = .ok (.getfield 70, 3) := by decide +kernel
theorem dX11_undo_4 : decode cX11_undo 4 = .ok (.getfield 229, 3) := by decide +kernel
theorem dX11_undo_7 : decode cX11_undo 7 = .ok (.ifCond .ne 5, 3) := by decide +kernel
theorem dX11_undo_10 : decode cX11_undo 10 = .ok (.iconst (-1), 1) := by decide +kernel
theorem dX11_undo_11 : decode cX11_undo 11 = .ok (.ireturn, 1) := by decide +kernel
theorem dX11_undo_12 : decode cX11_undo 12 = .ok (.aload_n 0, 1) := by decide +kernel
theorem dX11_undo_13 : decode cX11_undo 13 = .ok (.getfield 70, 3) := by decide +kernel
theorem dX11_undo_16 : decode cX11_undo 16 = .ok (.aload_n 0, 1) := by decide +kernel
theorem dX11_undo_17 : decode cX11_undo 17 = .ok (.getfield 56, 3) := by decide +kernel
theorem dX11_undo_20 : decode cX11_undo 20 = .ok (.aload_n 0, 1) := by decide +kernel
theorem dX11_undo_21 : decode cX11_undo 21 = .ok (.getfield 63, 3) := by decide +kernel
theorem dX11_undo_24 : decode cX11_undo 24 = .ok (.invokevirtual 295, 3) := by decide +kernel
theorem dX11_undo_27 : decode cX11_undo 27 = .ok (.aload_n 0, 1) := by decide +kernel
theorem dX11_undo_28 : decode cX11_undo 28 = .ok (.getfield 70, 3) := by decide +kernel
theorem dX11_undo_31 : decode cX11_undo 31 = .ok (.getfield 229, 3) := by decide +kernel
theorem dX11_undo_34 : decode cX11_undo 34 = .ok (.ireturn, 1) := by decide +kernel
theorem dX11_log_0 : decode cX11_log 0 = .ok (.iload_n 1, 1) := by decide +kernel
theorem dX11_log_1 : decode cX11_log 1 = .ok (.ifCond .lt 14, 3) := by decide +kernel
theorem dX11_log_4 : decode cX11_log 4 = .ok (.iload_n 1, 1) := by decide +kernel
theorem dX11_log_5 : decode cX11_log 5 = .ok (.aload_n 0, 1) := by decide +kernel
theorem dX11_log_6 : decode cX11_log 6 = .ok (.getfield 63, 3) := by decide +kernel
theorem dX11_log_9 : decode cX11_log 9 = .ok (.invokevirtual 227, 3) := by decide +kernel
theorem dX11_log_12 : decode cX11_log 12 = .ok (.if_icmp .lt 6, 3) := by decide +kernel
theorem dX11_log_15 : decode cX11_log 15 = .ok (.ldc 232, 2) := by decide +kernel
theorem dX11_log_17 : decode cX11_log 17 = .ok (.ireturn, 1) := by decide +kernel
theorem dX11_log_18 : decode cX11_log 18 = .ok (.aload_n 0, 1) := by decide +kernel
theorem dX11_log_19 : decode cX11_log 19 = .ok (.getfield 63, 3) := by decide +kernel
theorem dX11_log_22 : decode cX11_log 22 = .ok (.iload_n 1, 1) := by decide +kernel
theorem dX11_log_23 : decode cX11_log 23 = .ok (.invokevirtual 298, 3) := by decide +kernel
theorem dX11_log_26 : decode cX11_log 26 = .ok (.istore_n 3, 1) := by decide +kernel
theorem dX11_log_27 : decode cX11_log 27 = .ok (.iload_n 2, 1) := by decide +kernel
theorem dX11_log_28 : decode cX11_log 28 = .ok (.tableswitch 43 0 2 #[28, 33, 38], 28) := by decide +kernel
theorem dX11_log_56 : decode cX11_log 56 = .ok (.iload_n 3, 1) := by decide +kernel
theorem dX11_log_57 : decode cX11_log 57 = .ok (.invokestatic 301, 3) := by decide +kernel
theorem dX11_log_60 : decode cX11_log 60 = .ok (.ireturn, 1) := by decide +kernel
theorem dX11_log_61 : decode cX11_log 61 = .ok (.iload_n 3, 1) := by decide +kernel
theorem dX11_log_62 : decode cX11_log 62 = .ok (.invokestatic 304, 3) := by decide +kernel
theorem dX11_log_65 : decode cX11_log 65 = .ok (.ireturn, 1) := by decide +kernel
theorem dX11_log_66 : decode cX11_log 66 = .ok (.iload_n 3, 1) := by decide +kernel
theorem dX11_log_67 : decode cX11_log 67 = .ok (.invokestatic 307, 3) := by decide +kernel
theorem dX11_log_70 : decode cX11_log 70 = .ok (.ireturn, 1) := by decide +kernel
theorem dX11_log_71 : decode cX11_log 71 = .ok (.ldc 232, 2) := by decide +kernel
theorem dX11_log_73 : decode cX11_log 73 = .ok (.ireturn, 1) := by decide +kernel
theorem dX11_image_0 : decode cX11_image 0 = .ok (.aload_n 0, 1) := by decide +kernel
theorem dX11_image_1 : decode cX11_image 1 = .ok (.getfield 19, 3) := by decide +kernel
theorem dX11_image_4 : decode cX11_image 4 = .ok (.getfield 151, 3) := by decide +kernel
theorem dX11_image_7 : decode cX11_image 7 = .ok (.ifCond .ne 5, 3) := by decide +kernel
theorem dX11_image_10 : decode cX11_image 10 = .ok (.iconst (-1), 1) := by decide +kernel
theorem dX11_image_11 : decode cX11_image 11 = .ok (.ireturn, 1) := by decide +kernel
theorem dX11_image_12 : decode cX11_image 12 = .ok (.aload_n 0, 1) := by decide +kernel
theorem dX11_image_13 : decode cX11_image 13 = .ok (.getfield 70, 3) := by decide +kernel
theorem dX11_image_16 : decode cX11_image 16 = .ok (.aload_n 0, 1) := by decide +kernel
theorem dX11_image_17 : decode cX11_image 17 = .ok (.getfield 56, 3) := by decide +kernel
theorem dX11_image_20 : decode cX11_image 20 = .ok (.aload_n 0, 1) := by decide +kernel
theorem dX11_image_21 : decode cX11_image 21 = .ok (.getfield 63, 3) := by decide +kernel
theorem dX11_image_24 : decode cX11_image 24 = .ok (.invokevirtual 310, 3) := by decide +kernel
theorem dX11_image_27 : decode cX11_image 27 = .ok (.aload_n 0, 1) := by decide +kernel
theorem dX11_image_28 : decode cX11_image 28 = .ok (.getfield 56, 3) := by decide +kernel
theorem dX11_image_31 : decode cX11_image 31 = .ok (.getfield 215, 3) := by decide +kernel
theorem dX11_image_34 : decode cX11_image 34 = .ok (.ireturn, 1) := by decide +kernel
theorem dX11_back_0 : decode cX11_back 0 = .ok (.aload_n 0, 1) := by decide +kernel
theorem dX11_back_1 : decode cX11_back 1 = .ok (.getfield 70, 3) := by decide +kernel
theorem dX11_back_4 : decode cX11_back 4 = .ok (.getfield 313, 3) := by decide +kernel
theorem dX11_back_7 : decode cX11_back 7 = .ok (.ifCond .ne 5, 3) := by decide +kernel
theorem dX11_back_10 : decode cX11_back 10 = .ok (.iconst (-1), 1) := by decide +kernel
theorem dX11_back_11 : decode cX11_back 11 = .ok (.ireturn, 1) := by decide +kernel
theorem dX11_back_12 : decode cX11_back 12 = .ok (.aload_n 0, 1) := by decide +kernel
theorem dX11_back_13 : decode cX11_back 13 = .ok (.getfield 70, 3) := by decide +kernel
theorem dX11_back_16 : decode cX11_back 16 = .ok (.aload_n 0, 1) := by decide +kernel
theorem dX11_back_17 : decode cX11_back 17 = .ok (.getfield 56, 3) := by decide +kernel
theorem dX11_back_20 : decode cX11_back 20 = .ok (.aload_n 0, 1) := by decide +kernel
theorem dX11_back_21 : decode cX11_back 21 = .ok (.getfield 63, 3) := by decide +kernel
theorem dX11_back_24 : decode cX11_back 24 = .ok (.invokevirtual 317, 3) := by decide +kernel
theorem dX11_back_27 : decode cX11_back 27 = .ok (.aload_n 0, 1) := by decide +kernel
theorem dX11_back_28 : decode cX11_back 28 = .ok (.getfield 56, 3) := by decide +kernel
theorem dX11_back_31 : decode cX11_back 31 = .ok (.getfield 215, 3) := by decide +kernel
theorem dX11_back_34 : decode cX11_back 34 = .ok (.ireturn, 1) := by decide +kernel
theorem dX11_duel_0 : decode cX11_duel 0 = .ok (.aload_n 0, 1) := by decide +kernel
theorem dX11_duel_1 : decode cX11_duel 1 = .ok (.iload_n 1, 1) := by decide +kernel
theorem dX11_duel_2 : decode cX11_duel 2 = .ok (.iload_n 2, 1) := by decide +kernel
theorem dX11_duel_3 : decode cX11_duel 3 = .ok (.invokevirtual 320, 3) := by decide +kernel
theorem dX11_duel_6 : decode cX11_duel 6 = .ok (.ifCond .eq 12, 3) := by decide +kernel
theorem dX11_duel_9 : decode cX11_duel 9 = .ok (.iload_n 3, 1) := by decide +kernel
theorem dX11_duel_10 : decode cX11_duel 10 = .ok (.ifCond .lt 8, 3) := by decide +kernel
theorem dX11_duel_13 : decode cX11_duel 13 = .ok (.iload_n 3, 1) := by decide +kernel
theorem dX11_duel_14 : decode cX11_duel 14 = .ok (.iconst 2, 1) := by decide +kernel
theorem dX11_duel_15 : decode cX11_duel 15 = .ok (.if_icmp .le 5, 3) := by decide +kernel
theorem dX11_duel_18 : decode cX11_duel 18 = .ok (.iconst (-1), 1) := by decide +kernel
theorem dX11_duel_19 : decode cX11_duel 19 = .ok (.ireturn, 1) := by decide +kernel
theorem dX11_duel_20 : decode cX11_duel 20 = .ok (.aload_n 0, 1) := by decide +kernel
theorem dX11_duel_21 : decode cX11_duel 21 = .ok (.iload_n 1, 1) := by decide +kernel
theorem dX11_duel_22 : decode cX11_duel 22 = .ok (.iload_n 2, 1) := by decide +kernel
theorem dX11_duel_23 : decode cX11_duel 23 = .ok (.invokevirtual 323, 3) := by decide +kernel
theorem dX11_duel_26 : decode cX11_duel 26 = .ok (.aload_n 0, 1) := by decide +kernel
theorem dX11_duel_27 : decode cX11_duel 27 = .ok (.iload_n 1, 1) := by decide +kernel
theorem dX11_duel_28 : decode cX11_duel 28 = .ok (.invokevirtual 326, 3) := by decide +kernel
theorem dX11_duel_31 : decode cX11_duel 31 = .ok (.istore 4, 2) := by decide +kernel
theorem dX11_duel_33 : decode cX11_duel 33 = .ok (.aload_n 0, 1) := by decide +kernel
theorem dX11_duel_34 : decode cX11_duel 34 = .ok (.iload_n 2, 1) := by decide +kernel
theorem dX11_duel_35 : decode cX11_duel 35 = .ok (.invokevirtual 326, 3) := by decide +kernel
theorem dX11_duel_38 : decode cX11_duel 38 = .ok (.istore 5, 2) := by decide +kernel
theorem dX11_duel_40 : decode cX11_duel 40 = .ok (.iload_n 3, 1) := by decide +kernel
theorem dX11_duel_41 : decode cX11_duel 41 = .ok (.ifCond .ne 23, 3) := by decide +kernel
theorem dX11_duel_44 : decode cX11_duel 44 = .ok (.aload_n 0, 1) := by decide +kernel
theorem dX11_duel_45 : decode cX11_duel 45 = .ok (.getfield 77, 3) := by decide +kernel
theorem dX11_duel_48 : decode cX11_duel 48 = .ok (.iload 4, 2) := by decide +kernel
theorem dX11_duel_50 : decode cX11_duel 50 = .ok (.iload 5, 2) := by decide +kernel
theorem dX11_duel_52 : decode cX11_duel 52 = .ok (.invokevirtual 329, 3) := by decide +kernel
theorem dX11_duel_55 : decode cX11_duel 55 = .ok (.ifCond .eq 7, 3) := by decide +kernel
theorem dX11_duel_58 : decode cX11_duel 58 = .ok (.iconst 1, 1) := by decide +kernel
theorem dX11_duel_59 : decode cX11_duel 59 = .ok (.goto 4, 3) := by decide +kernel
theorem dX11_duel_62 : decode cX11_duel 62 = .ok (.iconst 0, 1) := by decide +kernel
theorem dX11_duel_63 : decode cX11_duel 63 = .ok (.ireturn, 1) := by decide +kernel
theorem dX11_duel_64 : decode cX11_duel 64 = .ok (.iload_n 3, 1) := by decide +kernel
theorem dX11_duel_65 : decode cX11_duel 65 = .ok (.iconst 1, 1) := by decide +kernel
theorem dX11_duel_66 : decode cX11_duel 66 = .ok (.if_icmp .ne 17, 3) := by decide +kernel
theorem dX11_duel_69 : decode cX11_duel 69 = .ok (.aload_n 0, 1) := by decide +kernel
theorem dX11_duel_70 : decode cX11_duel 70 = .ok (.getfield 77, 3) := by decide +kernel
theorem dX11_duel_73 : decode cX11_duel 73 = .ok (.iload 4, 2) := by decide +kernel
theorem dX11_duel_75 : decode cX11_duel 75 = .ok (.iload 5, 2) := by decide +kernel
theorem dX11_duel_77 : decode cX11_duel 77 = .ok (.invokevirtual 332, 3) := by decide +kernel
theorem dX11_duel_80 : decode cX11_duel 80 = .ok (.goto 14, 3) := by decide +kernel
theorem dX11_duel_83 : decode cX11_duel 83 = .ok (.aload_n 0, 1) := by decide +kernel
theorem dX11_duel_84 : decode cX11_duel 84 = .ok (.getfield 77, 3) := by decide +kernel
theorem dX11_duel_87 : decode cX11_duel 87 = .ok (.iload 4, 2) := by decide +kernel
theorem dX11_duel_89 : decode cX11_duel 89 = .ok (.iload 5, 2) := by decide +kernel
theorem dX11_duel_91 : decode cX11_duel 91 = .ok (.invokevirtual 336, 3) := by decide +kernel
theorem dX11_duel_94 : decode cX11_duel 94 = .ok (.ireturn, 1) := by decide +kernel
theorem dX11_treaty_0 : decode cX11_treaty 0 = .ok (.aload_n 0, 1) := by decide +kernel
theorem dX11_treaty_1 : decode cX11_treaty 1 = .ok (.iload_n 1, 1) := by decide +kernel
theorem dX11_treaty_2 : decode cX11_treaty 2 = .ok (.iload_n 2, 1) := by decide +kernel
theorem dX11_treaty_3 : decode cX11_treaty 3 = .ok (.invokevirtual 320, 3) := by decide +kernel
theorem dX11_treaty_6 : decode cX11_treaty 6 = .ok (.ifCond .ne 5, 3) := by decide +kernel
theorem dX11_treaty_9 : decode cX11_treaty 9 = .ok (.iconst (-1), 1) := by decide +kernel
theorem dX11_treaty_10 : decode cX11_treaty 10 = .ok (.ireturn, 1) := by decide +kernel
theorem dX11_treaty_11 : decode cX11_treaty 11 = .ok (.aload_n 0, 1) := by decide +kernel
theorem dX11_treaty_12 : decode cX11_treaty 12 = .ok (.iload_n 1, 1) := by decide +kernel
theorem dX11_treaty_13 : decode cX11_treaty 13 = .ok (.iload_n 2, 1) := by decide +kernel
theorem dX11_treaty_14 : decode cX11_treaty 14 = .ok (.invokevirtual 323, 3) := by decide +kernel
theorem dX11_treaty_17 : decode cX11_treaty 17 = .ok (.aload_n 0, 1) := by decide +kernel
theorem dX11_treaty_18 : decode cX11_treaty 18 = .ok (.iload_n 1, 1) := by decide +kernel
theorem dX11_treaty_19 : decode cX11_treaty 19 = .ok (.invokevirtual 326, 3) := by decide +kernel
theorem dX11_treaty_22 : decode cX11_treaty 22 = .ok (.istore_n 3, 1) := by decide +kernel
theorem dX11_treaty_23 : decode cX11_treaty 23 = .ok (.aload_n 0, 1) := by decide +kernel
theorem dX11_treaty_24 : decode cX11_treaty 24 = .ok (.iload_n 2, 1) := by decide +kernel
theorem dX11_treaty_25 : decode cX11_treaty 25 = .ok (.invokevirtual 326, 3) := by decide +kernel
theorem dX11_treaty_28 : decode cX11_treaty 28 = .ok (.istore 4, 2) := by decide +kernel
theorem dX11_treaty_30 : decode cX11_treaty 30 = .ok (.aload_n 0, 1) := by decide +kernel
theorem dX11_treaty_31 : decode cX11_treaty 31 = .ok (.getfield 77, 3) := by decide +kernel
theorem dX11_treaty_34 : decode cX11_treaty 34 = .ok (.iload_n 3, 1) := by decide +kernel
theorem dX11_treaty_35 : decode cX11_treaty 35 = .ok (.iload 4, 2) := by decide +kernel
theorem dX11_treaty_37 : decode cX11_treaty 37 = .ok (.invokevirtual 329, 3) := by decide +kernel
theorem dX11_treaty_40 : decode cX11_treaty 40 = .ok (.istore 5, 2) := by decide +kernel
theorem dX11_treaty_42 : decode cX11_treaty 42 = .ok (.bipush 9, 2) := by decide +kernel
theorem dX11_treaty_44 : decode cX11_treaty 44 = .ok (.aload_n 0, 1) := by decide +kernel
theorem dX11_treaty_45 : decode cX11_treaty 45 = .ok (.getfield 56, 3) := by decide +kernel
theorem dX11_treaty_48 : decode cX11_treaty 48 = .ok (.getfield 183, 3) := by decide +kernel
theorem dX11_treaty_51 : decode cX11_treaty 51 = .ok (.iload_n 1, 1) := by decide +kernel
theorem dX11_treaty_52 : decode cX11_treaty 52 = .ok (.iaload, 1) := by decide +kernel
theorem dX11_treaty_53 : decode cX11_treaty 53 = .ok (.aload_n 0, 1) := by decide +kernel
theorem dX11_treaty_54 : decode cX11_treaty 54 = .ok (.getfield 56, 3) := by decide +kernel
theorem dX11_treaty_57 : decode cX11_treaty 57 = .ok (.getfield 183, 3) := by decide +kernel
theorem dX11_treaty_60 : decode cX11_treaty 60 = .ok (.iload_n 2, 1) := by decide +kernel
theorem dX11_treaty_61 : decode cX11_treaty 61 = .ok (.iaload, 1) := by decide +kernel
theorem dX11_treaty_62 : decode cX11_treaty 62 = .ok (.invokestatic 339, 3) := by decide +kernel
theorem dX11_treaty_65 : decode cX11_treaty 65 = .ok (.invokestatic 339, 3) := by decide +kernel
theorem dX11_treaty_68 : decode cX11_treaty 68 = .ok (.istore 6, 2) := by decide +kernel
theorem dX11_treaty_70 : decode cX11_treaty 70 = .ok (.iconst 0, 1) := by decide +kernel
theorem dX11_treaty_71 : decode cX11_treaty 71 = .ok (.istore 7, 2) := by decide +kernel
theorem dX11_treaty_73 : decode cX11_treaty 73 = .ok (.iconst 1, 1) := by decide +kernel
theorem dX11_treaty_74 : decode cX11_treaty 74 = .ok (.istore 8, 2) := by decide +kernel
theorem dX11_treaty_76 : decode cX11_treaty 76 = .ok (.iload 8, 2) := by decide +kernel
theorem dX11_treaty_78 : decode cX11_treaty 78 = .ok (.iload 6, 2) := by decide +kernel
theorem dX11_treaty_80 : decode cX11_treaty 80 = .ok (.if_icmp .gt 34, 3) := by decide +kernel
theorem dX11_treaty_83 : decode cX11_treaty 83 = .ok (.aload_n 0, 1) := by decide +kernel
theorem dX11_treaty_84 : decode cX11_treaty 84 = .ok (.getfield 77, 3) := by decide +kernel
theorem dX11_treaty_87 : decode cX11_treaty 87 = .ok (.iload_n 3, 1) := by decide +kernel
theorem dX11_treaty_88 : decode cX11_treaty 88 = .ok (.iload 8, 2) := by decide +kernel
theorem dX11_treaty_90 : decode cX11_treaty 90 = .ok (.isub, 1) := by decide +kernel
theorem dX11_treaty_91 : decode cX11_treaty 91 = .ok (.iload 4, 2) := by decide +kernel
theorem dX11_treaty_93 : decode cX11_treaty 93 = .ok (.iload 8, 2) := by decide +kernel
theorem dX11_treaty_95 : decode cX11_treaty 95 = .ok (.isub, 1) := by decide +kernel
theorem dX11_treaty_96 : decode cX11_treaty 96 = .ok (.invokevirtual 329, 3) := by decide +kernel
theorem dX11_treaty_99 : decode cX11_treaty 99 = .ok (.iload 5, 2) := by decide +kernel
theorem dX11_treaty_101 : decode cX11_treaty 101 = .ok (.if_icmp .ne 13, 3) := by decide +kernel
theorem dX11_treaty_104 : decode cX11_treaty 104 = .ok (.iload 8, 2) := by decide +kernel
theorem dX11_treaty_106 : decode cX11_treaty 106 = .ok (.istore 7, 2) := by decide +kernel
theorem dX11_treaty_108 : decode cX11_treaty 108 = .ok (.iinc 8 1, 3) := by decide +kernel
theorem dX11_treaty_111 : decode cX11_treaty 111 = .ok (.goto (-35), 3) := by decide +kernel
theorem dX11_treaty_114 : decode cX11_treaty 114 = .ok (.iload 7, 2) := by decide +kernel
theorem dX11_treaty_116 : decode cX11_treaty 116 = .ok (.ireturn, 1) := by decide +kernel
theorem dX11_champion_0 : decode cX11_champion 0 = .ok (.aload_n 0, 1) := by decide +kernel
theorem dX11_champion_1 : decode cX11_champion 1 = .ok (.iload_n 1, 1) := by decide +kernel
theorem dX11_champion_2 : decode cX11_champion 2 = .ok (.invokevirtual 344, 3) := by decide +kernel
theorem dX11_champion_5 : decode cX11_champion 5 = .ok (.ifCond .ne 5, 3) := by decide +kernel
theorem dX11_champion_8 : decode cX11_champion 8 = .ok (.iconst (-1), 1) := by decide +kernel
theorem dX11_champion_9 : decode cX11_champion 9 = .ok (.ireturn, 1) := by decide +kernel
theorem dX11_champion_10 : decode cX11_champion 10 = .ok (.aload_n 0, 1) := by decide +kernel
theorem dX11_champion_11 : decode cX11_champion 11 = .ok (.iload_n 1, 1) := by decide +kernel
theorem dX11_champion_12 : decode cX11_champion 12 = .ok (.invokevirtual 347, 3) := by decide +kernel
theorem dX11_champion_15 : decode cX11_champion 15 = .ok (.iconst (-1), 1) := by decide +kernel
theorem dX11_champion_16 : decode cX11_champion 16 = .ok (.istore_n 2, 1) := by decide +kernel
theorem dX11_champion_17 : decode cX11_champion 17 = .ok (.iconst 0, 1) := by decide +kernel
theorem dX11_champion_18 : decode cX11_champion 18 = .ok (.istore_n 3, 1) := by decide +kernel
theorem dX11_champion_19 : decode cX11_champion 19 = .ok (.iload_n 3, 1) := by decide +kernel
theorem dX11_champion_20 : decode cX11_champion 20 = .ok (.aload_n 0, 1) := by decide +kernel
theorem dX11_champion_21 : decode cX11_champion 21 = .ok (.getfield 19, 3) := by decide +kernel
theorem dX11_champion_24 : decode cX11_champion 24 = .ok (.getfield 151, 3) := by decide +kernel
theorem dX11_champion_27 : decode cX11_champion 27 = .ok (.if_icmp .ge 55, 3) := by decide +kernel
theorem dX11_champion_30 : decode cX11_champion 30 = .ok (.aload_n 0, 1) := by decide +kernel
theorem dX11_champion_31 : decode cX11_champion 31 = .ok (.getfield 19, 3) := by decide +kernel
theorem dX11_champion_34 : decode cX11_champion 34 = .ok (.getfield 165, 3) := by decide +kernel
theorem dX11_champion_37 : decode cX11_champion 37 = .ok (.iload_n 3, 1) := by decide +kernel
theorem dX11_champion_38 : decode cX11_champion 38 = .ok (.iaload, 1) := by decide +kernel
theorem dX11_champion_39 : decode cX11_champion 39 = .ok (.iload_n 1, 1) := by decide +kernel
theorem dX11_champion_40 : decode cX11_champion 40 = .ok (.if_icmp .ne 36, 3) := by decide +kernel
theorem dX11_champion_43 : decode cX11_champion 43 = .ok (.aload_n 0, 1) := by decide +kernel
theorem dX11_champion_44 : decode cX11_champion 44 = .ok (.getfield 56, 3) := by decide +kernel
theorem dX11_champion_47 : decode cX11_champion 47 = .ok (.iload_n 3, 1) := by decide +kernel
theorem dX11_champion_48 : decode cX11_champion 48 = .ok (.invokevirtual 236, 3) := by decide +kernel
theorem dX11_champion_51 : decode cX11_champion 51 = .ok (.ifCond .eq 25, 3) := by decide +kernel
theorem dX11_champion_54 : decode cX11_champion 54 = .ok (.iload_n 2, 1) := by decide +kernel
theorem dX11_champion_55 : decode cX11_champion 55 = .ok (.iconst (-1), 1) := by decide +kernel
theorem dX11_champion_56 : decode cX11_champion 56 = .ok (.if_icmp .eq 18, 3) := by decide +kernel
theorem dX11_champion_59 : decode cX11_champion 59 = .ok (.aload_n 0, 1) := by decide +kernel
theorem dX11_champion_60 : decode cX11_champion 60 = .ok (.getfield 101, 3) := by decide +kernel
theorem dX11_champion_63 : decode cX11_champion 63 = .ok (.iload_n 3, 1) := by decide +kernel
theorem dX11_champion_64 : decode cX11_champion 64 = .ok (.iaload, 1) := by decide +kernel
theorem dX11_champion_65 : decode cX11_champion 65 = .ok (.aload_n 0, 1) := by decide +kernel
theorem dX11_champion_66 : decode cX11_champion 66 = .ok (.getfield 101, 3) := by decide +kernel
theorem dX11_champion_69 : decode cX11_champion 69 = .ok (.iload_n 2, 1) := by decide +kernel
theorem dX11_champion_70 : decode cX11_champion 70 = .ok (.iaload, 1) := by decide +kernel
theorem dX11_champion_71 : decode cX11_champion 71 = .ok (.if_icmp .le 5, 3) := by decide +kernel
theorem dX11_champion_74 : decode cX11_champion 74 = .ok (.iload_n 3, 1) := by decide +kernel
theorem dX11_champion_75 : decode cX11_champion 75 = .ok (.istore_n 2, 1) := by decide +kernel
theorem dX11_champion_76 : decode cX11_champion 76 = .ok (.iinc 3 1, 3) := by decide +kernel
theorem dX11_champion_79 : decode cX11_champion 79 = .ok (.goto (-60), 3) := by decide +kernel
theorem dX11_champion_82 : decode cX11_champion 82 = .ok (.iload_n 2, 1) := by decide +kernel
theorem dX11_champion_83 : decode cX11_champion 83 = .ok (.ireturn, 1) := by decide +kernel
theorem dX11_victors_0 : decode cX11_victors 0 = .ok (.aload_n 0, 1) := by decide +kernel
theorem dX11_victors_1 : decode cX11_victors 1 = .ok (.iload_n 1, 1) := by decide +kernel
theorem dX11_victors_2 : decode cX11_victors 2 = .ok (.invokevirtual 344, 3) := by decide +kernel
theorem dX11_victors_5 : decode cX11_victors 5 = .ok (.ifCond .ne 5, 3) := by decide +kernel
theorem dX11_victors_8 : decode cX11_victors 8 = .ok (.iconst (-1), 1) := by decide +kernel
theorem dX11_victors_9 : decode cX11_victors 9 = .ok (.ireturn, 1) := by decide +kernel
theorem dX11_victors_10 : decode cX11_victors 10 = .ok (.aload_n 0, 1) := by decide +kernel
theorem dX11_victors_11 : decode cX11_victors 11 = .ok (.iload_n 1, 1) := by decide +kernel
theorem dX11_victors_12 : decode cX11_victors 12 = .ok (.invokevirtual 347, 3) := by decide +kernel
theorem dX11_victors_15 : decode cX11_victors 15 = .ok (.iconst 0, 1) := by decide +kernel
theorem dX11_victors_16 : decode cX11_victors 16 = .ok (.istore_n 2, 1) := by decide +kernel
theorem dX11_victors_17 : decode cX11_victors 17 = .ok (.iconst 0, 1) := by decide +kernel
theorem dX11_victors_18 : decode cX11_victors 18 = .ok (.istore_n 3, 1) := by decide +kernel
theorem dX11_victors_19 : decode cX11_victors 19 = .ok (.iload_n 3, 1) := by decide +kernel
theorem dX11_victors_20 : decode cX11_victors 20 = .ok (.aload_n 0, 1) := by decide +kernel
theorem dX11_victors_21 : decode cX11_victors 21 = .ok (.getfield 19, 3) := by decide +kernel
theorem dX11_victors_24 : decode cX11_victors 24 = .ok (.getfield 151, 3) := by decide +kernel
theorem dX11_victors_27 : decode cX11_victors 27 = .ok (.if_icmp .ge 41, 3) := by decide +kernel
theorem dX11_victors_30 : decode cX11_victors 30 = .ok (.iload_n 2, 1) := by decide +kernel
theorem dX11_victors_31 : decode cX11_victors 31 = .ok (.aload_n 0, 1) := by decide +kernel
theorem dX11_victors_32 : decode cX11_victors 32 = .ok (.getfield 19, 3) := by decide +kernel
theorem dX11_victors_35 : decode cX11_victors 35 = .ok (.getfield 165, 3) := by decide +kernel
theorem dX11_victors_38 : decode cX11_victors 38 = .ok (.iload_n 3, 1) := by decide +kernel
theorem dX11_victors_39 : decode cX11_victors 39 = .ok (.iaload, 1) := by decide +kernel
theorem dX11_victors_40 : decode cX11_victors 40 = .ok (.iload_n 1, 1) := by decide +kernel
theorem dX11_victors_41 : decode cX11_victors 41 = .ok (.if_icmp .eq 18, 3) := by decide +kernel
theorem dX11_victors_44 : decode cX11_victors 44 = .ok (.aload_n 0, 1) := by decide +kernel
theorem dX11_victors_45 : decode cX11_victors 45 = .ok (.getfield 56, 3) := by decide +kernel
theorem dX11_victors_48 : decode cX11_victors 48 = .ok (.iload_n 3, 1) := by decide +kernel
theorem dX11_victors_49 : decode cX11_victors 49 = .ok (.invokevirtual 236, 3) := by decide +kernel
theorem dX11_victors_52 : decode cX11_victors 52 = .ok (.ifCond .eq 7, 3) := by decide +kernel
theorem dX11_victors_55 : decode cX11_victors 55 = .ok (.iconst 1, 1) := by decide +kernel
theorem dX11_victors_56 : decode cX11_victors 56 = .ok (.goto 4, 3) := by decide +kernel
theorem dX11_victors_59 : decode cX11_victors 59 = .ok (.iconst 0, 1) := by decide +kernel
theorem dX11_victors_60 : decode cX11_victors 60 = .ok (.iadd, 1) := by decide +kernel
theorem dX11_victors_61 : decode cX11_victors 61 = .ok (.istore_n 2, 1) := by decide +kernel
theorem dX11_victors_62 : decode cX11_victors 62 = .ok (.iinc 3 1, 3) := by decide +kernel
theorem dX11_victors_65 : decode cX11_victors 65 = .ok (.goto (-46), 3) := by decide +kernel
theorem dX11_victors_68 : decode cX11_victors 68 = .ok (.iconst 0, 1) := by decide +kernel
theorem dX11_victors_69 : decode cX11_victors 69 = .ok (.istore_n 3, 1) := by decide +kernel
theorem dX11_victors_70 : decode cX11_victors 70 = .ok (.iconst 0, 1) := by decide +kernel
theorem dX11_victors_71 : decode cX11_victors 71 = .ok (.istore 4, 2) := by decide +kernel
theorem dX11_victors_73 : decode cX11_victors 73 = .ok (.iload 4, 2) := by decide +kernel
theorem dX11_victors_75 : decode cX11_victors 75 = .ok (.aload_n 0, 1) := by decide +kernel
theorem dX11_victors_76 : decode cX11_victors 76 = .ok (.getfield 19, 3) := by decide +kernel
theorem dX11_victors_79 : decode cX11_victors 79 = .ok (.getfield 151, 3) := by decide +kernel
theorem dX11_victors_82 : decode cX11_victors 82 = .ok (.if_icmp .ge 57, 3) := by decide +kernel
theorem dX11_victors_85 : decode cX11_victors 85 = .ok (.aload_n 0, 1) := by decide +kernel
theorem dX11_victors_86 : decode cX11_victors 86 = .ok (.getfield 19, 3) := by decide +kernel
theorem dX11_victors_89 : decode cX11_victors 89 = .ok (.getfield 165, 3) := by decide +kernel
theorem dX11_victors_92 : decode cX11_victors 92 = .ok (.iload 4, 2) := by decide +kernel
theorem dX11_victors_94 : decode cX11_victors 94 = .ok (.iaload, 1) := by decide +kernel
theorem dX11_victors_95 : decode cX11_victors 95 = .ok (.iload_n 1, 1) := by decide +kernel
theorem dX11_victors_96 : decode cX11_victors 96 = .ok (.if_icmp .ne 37, 3) := by decide +kernel
theorem dX11_victors_99 : decode cX11_victors 99 = .ok (.aload_n 0, 1) := by decide +kernel
theorem dX11_victors_100 : decode cX11_victors 100 = .ok (.getfield 56, 3) := by decide +kernel
theorem dX11_victors_103 : decode cX11_victors 103 = .ok (.iload 4, 2) := by decide +kernel
theorem dX11_victors_105 : decode cX11_victors 105 = .ok (.invokevirtual 236, 3) := by decide +kernel
theorem dX11_victors_108 : decode cX11_victors 108 = .ok (.ifCond .eq 25, 3) := by decide +kernel
theorem dX11_victors_111 : decode cX11_victors 111 = .ok (.iload_n 2, 1) := by decide +kernel
theorem dX11_victors_112 : decode cX11_victors 112 = .ok (.ifCond .le 21, 3) := by decide +kernel
theorem dX11_victors_115 : decode cX11_victors 115 = .ok (.aload_n 0, 1) := by decide +kernel
theorem dX11_victors_116 : decode cX11_victors 116 = .ok (.getfield 101, 3) := by decide +kernel
theorem dX11_victors_119 : decode cX11_victors 119 = .ok (.iload 4, 2) := by decide +kernel
theorem dX11_victors_121 : decode cX11_victors 121 = .ok (.iaload, 1) := by decide +kernel
theorem dX11_victors_122 : decode cX11_victors 122 = .ok (.iload_n 2, 1) := by decide +kernel
theorem dX11_victors_123 : decode cX11_victors 123 = .ok (.if_icmp .ne 10, 3) := by decide +kernel
theorem dX11_victors_126 : decode cX11_victors 126 = .ok (.iload_n 3, 1) := by decide +kernel
theorem dX11_victors_127 : decode cX11_victors 127 = .ok (.iconst 1, 1) := by decide +kernel
theorem dX11_victors_128 : decode cX11_victors 128 = .ok (.iload 4, 2) := by decide +kernel
theorem dX11_victors_130 : decode cX11_victors 130 = .ok (.ishl, 1) := by decide +kernel
theorem dX11_victors_131 : decode cX11_victors 131 = .ok (.ior, 1) := by decide +kernel
theorem dX11_victors_132 : decode cX11_victors 132 = .ok (.istore_n 3, 1) := by decide +kernel
theorem dX11_victors_133 : decode cX11_victors 133 = .ok (.iinc 4 1, 3) := by decide +kernel
theorem dX11_victors_136 : decode cX11_victors 136 = .ok (.goto (-63), 3) := by decide +kernel
theorem dX11_victors_139 : decode cX11_victors 139 = .ok (.iload_n 3, 1) := by decide +kernel
theorem dX11_victors_140 : decode cX11_victors 140 = .ok (.ireturn, 1) := by decide +kernel
theorem dX11_countWins_0 : decode cX11_countWins 0 = .ok (.iconst 0, 1) := by decide +kernel
theorem dX11_countWins_1 : decode cX11_countWins 1 = .ok (.istore_n 2, 1) := by decide +kernel
theorem dX11_countWins_2 : decode cX11_countWins 2 = .ok (.iload_n 2, 1) := by decide +kernel
theorem dX11_countWins_3 : decode cX11_countWins 3 = .ok (.aload_n 0, 1) := by decide +kernel
theorem dX11_countWins_4 : decode cX11_countWins 4 = .ok (.getfield 101, 3) := by decide +kernel
theorem dX11_countWins_7 : decode cX11_countWins 7 = .ok (.arraylength, 1) := by decide +kernel
theorem dX11_countWins_8 : decode cX11_countWins 8 = .ok (.if_icmp .ge 16, 3) := by decide +kernel
theorem dX11_countWins_11 : decode cX11_countWins 11 = .ok (.aload_n 0, 1) := by decide +kernel
theorem dX11_countWins_12 : decode cX11_countWins 12 = .ok (.getfield 101, 3) := by decide +kernel
theorem dX11_countWins_15 : decode cX11_countWins 15 = .ok (.iload_n 2, 1) := by decide +kernel
theorem dX11_countWins_16 : decode cX11_countWins 16 = .ok (.iconst 0, 1) := by decide +kernel
theorem dX11_countWins_17 : decode cX11_countWins 17 = .ok (.iastore, 1) := by decide +kernel
theorem dX11_countWins_18 : decode cX11_countWins 18 = .ok (.iinc 2 1, 3) := by decide +kernel
theorem dX11_countWins_21 : decode cX11_countWins 21 = .ok (.goto (-19), 3) := by decide +kernel
theorem dX11_countWins_24 : decode cX11_countWins 24 = .ok (.iconst 1, 1) := by decide +kernel
theorem dX11_countWins_25 : decode cX11_countWins 25 = .ok (.istore_n 2, 1) := by decide +kernel
theorem dX11_countWins_26 : decode cX11_countWins 26 = .ok (.iload_n 2, 1) := by decide +kernel
theorem dX11_countWins_27 : decode cX11_countWins 27 = .ok (.iconst 5, 1) := by decide +kernel
theorem dX11_countWins_28 : decode cX11_countWins 28 = .ok (.if_icmp .gt 29, 3) := by decide +kernel
theorem dX11_countWins_31 : decode cX11_countWins 31 = .ok (.iconst 1, 1) := by decide +kernel
theorem dX11_countWins_32 : decode cX11_countWins 32 = .ok (.istore_n 3, 1) := by decide +kernel
theorem dX11_countWins_33 : decode cX11_countWins 33 = .ok (.iload_n 3, 1) := by decide +kernel
theorem dX11_countWins_34 : decode cX11_countWins 34 = .ok (.iconst 5, 1) := by decide +kernel
theorem dX11_countWins_35 : decode cX11_countWins 35 = .ok (.if_icmp .gt 16, 3) := by decide +kernel
theorem dX11_countWins_38 : decode cX11_countWins 38 = .ok (.aload_n 0, 1) := by decide +kernel
theorem dX11_countWins_39 : decode cX11_countWins 39 = .ok (.iload_n 1, 1) := by decide +kernel
theorem dX11_countWins_40 : decode cX11_countWins 40 = .ok (.iload_n 2, 1) := by decide +kernel
theorem dX11_countWins_41 : decode cX11_countWins 41 = .ok (.iload_n 3, 1) := by decide +kernel
theorem dX11_countWins_42 : decode cX11_countWins 42 = .ok (.invokevirtual 350, 3) := by decide +kernel
theorem dX11_countWins_45 : decode cX11_countWins 45 = .ok (.iinc 3 1, 3) := by decide +kernel
theorem dX11_countWins_48 : decode cX11_countWins 48 = .ok (.goto (-15), 3) := by decide +kernel
theorem dX11_countWins_51 : decode cX11_countWins 51 = .ok (.iinc 2 1, 3) := by decide +kernel
theorem dX11_countWins_54 : decode cX11_countWins 54 = .ok (.goto (-28), 3) := by decide +kernel
theorem dX11_countWins_57 : decode cX11_countWins 57 = .ok (.return_, 1) := by decide +kernel
theorem dX11_countWinsOfSpeeds_0 : decode cX11_countWinsOfSpeeds 0 = .ok (.iconst 0, 1) := by decide +kernel
theorem dX11_countWinsOfSpeeds_1 : decode cX11_countWinsOfSpeeds 1 = .ok (.istore 4, 2) := by decide +kernel
theorem dX11_countWinsOfSpeeds_3 : decode cX11_countWinsOfSpeeds 3 = .ok (.iload 4, 2) := by decide +kernel
theorem dX11_countWinsOfSpeeds_5 : decode cX11_countWinsOfSpeeds 5 = .ok (.aload_n 0, 1) := by decide +kernel
theorem dX11_countWinsOfSpeeds_6 : decode cX11_countWinsOfSpeeds 6 = .ok (.getfield 19, 3) := by decide +kernel
theorem dX11_countWinsOfSpeeds_9 : decode cX11_countWinsOfSpeeds 9 = .ok (.getfield 151, 3) := by decide +kernel
theorem dX11_countWinsOfSpeeds_12 : decode cX11_countWinsOfSpeeds 12 = .ok (.if_icmp .ge 167, 3) := by decide +kernel
theorem dX11_countWinsOfSpeeds_15 : decode cX11_countWinsOfSpeeds 15 = .ok (.aload_n 0, 1) := by decide +kernel
theorem dX11_countWinsOfSpeeds_16 : decode cX11_countWinsOfSpeeds 16 = .ok (.getfield 19, 3) := by decide +kernel
theorem dX11_countWinsOfSpeeds_19 : decode cX11_countWinsOfSpeeds 19 = .ok (.getfield 165, 3) := by decide +kernel
theorem dX11_countWinsOfSpeeds_22 : decode cX11_countWinsOfSpeeds 22 = .ok (.iload 4, 2) := by decide +kernel
theorem dX11_countWinsOfSpeeds_24 : decode cX11_countWinsOfSpeeds 24 = .ok (.iaload, 1) := by decide +kernel
theorem dX11_countWinsOfSpeeds_25 : decode cX11_countWinsOfSpeeds 25 = .ok (.iload_n 1, 1) := by decide +kernel
theorem dX11_countWinsOfSpeeds_26 : decode cX11_countWinsOfSpeeds 26 = .ok (.if_icmp .ne 33, 3) := by decide +kernel
theorem dX11_countWinsOfSpeeds_29 : decode cX11_countWinsOfSpeeds 29 = .ok (.aload_n 0, 1) := by decide +kernel
theorem dX11_countWinsOfSpeeds_30 : decode cX11_countWinsOfSpeeds 30 = .ok (.getfield 19, 3) := by decide +kernel
theorem dX11_countWinsOfSpeeds_33 : decode cX11_countWinsOfSpeeds 33 = .ok (.getfield 171, 3) := by decide +kernel
theorem dX11_countWinsOfSpeeds_36 : decode cX11_countWinsOfSpeeds 36 = .ok (.iload 4, 2) := by decide +kernel
theorem dX11_countWinsOfSpeeds_38 : decode cX11_countWinsOfSpeeds 38 = .ok (.iaload, 1) := by decide +kernel
theorem dX11_countWinsOfSpeeds_39 : decode cX11_countWinsOfSpeeds 39 = .ok (.iload_n 2, 1) := by decide +kernel
theorem dX11_countWinsOfSpeeds_40 : decode cX11_countWinsOfSpeeds 40 = .ok (.if_icmp .ne 19, 3) := by decide +kernel
theorem dX11_countWinsOfSpeeds_43 : decode cX11_countWinsOfSpeeds 43 = .ok (.aload_n 0, 1) := by decide +kernel
theorem dX11_countWinsOfSpeeds_44 : decode cX11_countWinsOfSpeeds 44 = .ok (.getfield 56, 3) := by decide +kernel
theorem dX11_countWinsOfSpeeds_47 : decode cX11_countWinsOfSpeeds 47 = .ok (.iload 4, 2) := by decide +kernel
theorem dX11_countWinsOfSpeeds_49 : decode cX11_countWinsOfSpeeds 49 = .ok (.invokevirtual 236, 3) := by decide +kernel
theorem dX11_countWinsOfSpeeds_52 : decode cX11_countWinsOfSpeeds 52 = .ok (.ifCond .eq 7, 3) := by decide +kernel
theorem dX11_countWinsOfSpeeds_55 : decode cX11_countWinsOfSpeeds 55 = .ok (.iconst 1, 1) := by decide +kernel
theorem dX11_countWinsOfSpeeds_56 : decode cX11_countWinsOfSpeeds 56 = .ok (.goto 4, 3) := by decide +kernel
theorem dX11_countWinsOfSpeeds_59 : decode cX11_countWinsOfSpeeds 59 = .ok (.iconst 0, 1) := by decide +kernel
theorem dX11_countWinsOfSpeeds_60 : decode cX11_countWinsOfSpeeds 60 = .ok (.istore 5, 2) := by decide +kernel
theorem dX11_countWinsOfSpeeds_62 : decode cX11_countWinsOfSpeeds 62 = .ok (.iconst 0, 1) := by decide +kernel
theorem dX11_countWinsOfSpeeds_63 : decode cX11_countWinsOfSpeeds 63 = .ok (.istore 6, 2) := by decide +kernel
theorem dX11_countWinsOfSpeeds_65 : decode cX11_countWinsOfSpeeds 65 = .ok (.iload 5, 2) := by decide +kernel
theorem dX11_countWinsOfSpeeds_67 : decode cX11_countWinsOfSpeeds 67 = .ok (.ifCond .eq 106, 3) := by decide +kernel
theorem dX11_countWinsOfSpeeds_70 : decode cX11_countWinsOfSpeeds 70 = .ok (.iload 6, 2) := by decide +kernel
theorem dX11_countWinsOfSpeeds_72 : decode cX11_countWinsOfSpeeds 72 = .ok (.aload_n 0, 1) := by decide +kernel
theorem dX11_countWinsOfSpeeds_73 : decode cX11_countWinsOfSpeeds 73 = .ok (.getfield 19, 3) := by decide +kernel
theorem dX11_countWinsOfSpeeds_76 : decode cX11_countWinsOfSpeeds 76 = .ok (.getfield 151, 3) := by decide +kernel
theorem dX11_countWinsOfSpeeds_79 : decode cX11_countWinsOfSpeeds 79 = .ok (.if_icmp .ge 94, 3) := by decide +kernel
theorem dX11_countWinsOfSpeeds_82 : decode cX11_countWinsOfSpeeds 82 = .ok (.aload_n 0, 1) := by decide +kernel
theorem dX11_countWinsOfSpeeds_83 : decode cX11_countWinsOfSpeeds 83 = .ok (.getfield 19, 3) := by decide +kernel
theorem dX11_countWinsOfSpeeds_86 : decode cX11_countWinsOfSpeeds 86 = .ok (.getfield 165, 3) := by decide +kernel
theorem dX11_countWinsOfSpeeds_89 : decode cX11_countWinsOfSpeeds 89 = .ok (.iload 6, 2) := by decide +kernel
theorem dX11_countWinsOfSpeeds_91 : decode cX11_countWinsOfSpeeds 91 = .ok (.iaload, 1) := by decide +kernel
theorem dX11_countWinsOfSpeeds_92 : decode cX11_countWinsOfSpeeds 92 = .ok (.iload_n 1, 1) := by decide +kernel
theorem dX11_countWinsOfSpeeds_93 : decode cX11_countWinsOfSpeeds 93 = .ok (.if_icmp .eq 74, 3) := by decide +kernel
theorem dX11_countWinsOfSpeeds_96 : decode cX11_countWinsOfSpeeds 96 = .ok (.aload_n 0, 1) := by decide +kernel
theorem dX11_countWinsOfSpeeds_97 : decode cX11_countWinsOfSpeeds 97 = .ok (.getfield 19, 3) := by decide +kernel
theorem dX11_countWinsOfSpeeds_100 : decode cX11_countWinsOfSpeeds 100 = .ok (.getfield 171, 3) := by decide +kernel
theorem dX11_countWinsOfSpeeds_103 : decode cX11_countWinsOfSpeeds 103 = .ok (.iload 6, 2) := by decide +kernel
theorem dX11_countWinsOfSpeeds_105 : decode cX11_countWinsOfSpeeds 105 = .ok (.iaload, 1) := by decide +kernel
theorem dX11_countWinsOfSpeeds_106 : decode cX11_countWinsOfSpeeds 106 = .ok (.iload_n 3, 1) := by decide +kernel
theorem dX11_countWinsOfSpeeds_107 : decode cX11_countWinsOfSpeeds 107 = .ok (.if_icmp .ne 60, 3) := by decide +kernel
theorem dX11_countWinsOfSpeeds_110 : decode cX11_countWinsOfSpeeds 110 = .ok (.aload_n 0, 1) := by decide +kernel
theorem dX11_countWinsOfSpeeds_111 : decode cX11_countWinsOfSpeeds 111 = .ok (.getfield 56, 3) := by decide +kernel
theorem dX11_countWinsOfSpeeds_114 : decode cX11_countWinsOfSpeeds 114 = .ok (.iload 6, 2) := by decide +kernel
theorem dX11_countWinsOfSpeeds_116 : decode cX11_countWinsOfSpeeds 116 = .ok (.invokevirtual 236, 3) := by decide +kernel
theorem dX11_countWinsOfSpeeds_119 : decode cX11_countWinsOfSpeeds 119 = .ok (.ifCond .eq 48, 3) := by decide +kernel
theorem dX11_countWinsOfSpeeds_122 : decode cX11_countWinsOfSpeeds 122 = .ok (.aload_n 0, 1) := by decide +kernel
theorem dX11_countWinsOfSpeeds_123 : decode cX11_countWinsOfSpeeds 123 = .ok (.iload 4, 2) := by decide +kernel
theorem dX11_countWinsOfSpeeds_125 : decode cX11_countWinsOfSpeeds 125 = .ok (.iload 6, 2) := by decide +kernel
theorem dX11_countWinsOfSpeeds_127 : decode cX11_countWinsOfSpeeds 127 = .ok (.invokevirtual 323, 3) := by decide +kernel
theorem dX11_countWinsOfSpeeds_130 : decode cX11_countWinsOfSpeeds 130 = .ok (.aload_n 0, 1) := by decide +kernel
theorem dX11_countWinsOfSpeeds_131 : decode cX11_countWinsOfSpeeds 131 = .ok (.getfield 101, 3) := by decide +kernel
theorem dX11_countWinsOfSpeeds_134 : decode cX11_countWinsOfSpeeds 134 = .ok (.iload 4, 2) := by decide +kernel
theorem dX11_countWinsOfSpeeds_136 : decode cX11_countWinsOfSpeeds 136 = .ok (.dup2, 1) := by decide +kernel
theorem dX11_countWinsOfSpeeds_137 : decode cX11_countWinsOfSpeeds 137 = .ok (.iaload, 1) := by decide +kernel
theorem dX11_countWinsOfSpeeds_138 : decode cX11_countWinsOfSpeeds 138 = .ok (.aload_n 0, 1) := by decide +kernel
theorem dX11_countWinsOfSpeeds_139 : decode cX11_countWinsOfSpeeds 139 = .ok (.getfield 77, 3) := by decide +kernel
theorem dX11_countWinsOfSpeeds_142 : decode cX11_countWinsOfSpeeds 142 = .ok (.aload_n 0, 1) := by decide +kernel
theorem dX11_countWinsOfSpeeds_143 : decode cX11_countWinsOfSpeeds 143 = .ok (.iload 4, 2) := by decide +kernel
theorem dX11_countWinsOfSpeeds_145 : decode cX11_countWinsOfSpeeds 145 = .ok (.invokevirtual 326, 3) := by decide +kernel
theorem dX11_countWinsOfSpeeds_148 : decode cX11_countWinsOfSpeeds 148 = .ok (.aload_n 0, 1) := by decide +kernel
theorem dX11_countWinsOfSpeeds_149 : decode cX11_countWinsOfSpeeds 149 = .ok (.iload 6, 2) := by decide +kernel
theorem dX11_countWinsOfSpeeds_151 : decode cX11_countWinsOfSpeeds 151 = .ok (.invokevirtual 326, 3) := by decide +kernel
theorem dX11_countWinsOfSpeeds_154 : decode cX11_countWinsOfSpeeds 154 = .ok (.invokevirtual 329, 3) := by decide +kernel
