theorem dX11_countWinsOfSpeeds_157 : decode cX11_countWinsOfSpeeds 157 = .ok (.ifCond .eq 7, 3) := by decide +kernel
theorem dX11_countWinsOfSpeeds_160 : decode cX11_countWinsOfSpeeds 160 = .ok (.iconst 1, 1) := by decide +kernel
theorem dX11_countWinsOfSpeeds_161 : decode cX11_countWinsOfSpeeds 161 = .ok (.goto 4, 3) := by decide +kernel
theorem dX11_countWinsOfSpeeds_164 : decode cX11_countWinsOfSpeeds 164 = .ok (.iconst 0, 1) := by decide +kernel
theorem dX11_countWinsOfSpeeds_165 : decode cX11_countWinsOfSpeeds 165 = .ok (.iadd, 1) := by decide +kernel
theorem dX11_countWinsOfSpeeds_166 : decode cX11_countWinsOfSpeeds 166 = .ok (.iastore, 1) := by decide +kernel
theorem dX11_countWinsOfSpeeds_167 : decode cX11_countWinsOfSpeeds 167 = .ok (.iinc 6 1, 3) := by decide +kernel
theorem dX11_countWinsOfSpeeds_170 : decode cX11_countWinsOfSpeeds 170 = .ok (.goto (-105), 3) := by decide +kernel
theorem dX11_countWinsOfSpeeds_173 : decode cX11_countWinsOfSpeeds 173 = .ok (.iinc 4 1, 3) := by decide +kernel
theorem dX11_countWinsOfSpeeds_176 : decode cX11_countWinsOfSpeeds 176 = .ok (.goto (-173), 3) := by decide +kernel
theorem dX11_countWinsOfSpeeds_179 : decode cX11_countWinsOfSpeeds 179 = .ok (.return_, 1) := by decide +kernel
theorem dX11_mayDuel_0 : decode cX11_mayDuel 0 = .ok (.aload_n 0, 1) := by decide +kernel
theorem dX11_mayDuel_1 : decode cX11_mayDuel 1 = .ok (.getfield 19, 3) := by decide +kernel
theorem dX11_mayDuel_4 : decode cX11_mayDuel 4 = .ok (.iload_n 1, 1) := by decide +kernel
theorem dX11_mayDuel_5 : decode cX11_mayDuel 5 = .ok (.invokevirtual 154, 3) := by decide +kernel
theorem dX11_mayDuel_8 : decode cX11_mayDuel 8 = .ok (.ifCond .eq 45, 3) := by decide +kernel
theorem dX11_mayDuel_11 : decode cX11_mayDuel 11 = .ok (.aload_n 0, 1) := by decide +kernel
theorem dX11_mayDuel_12 : decode cX11_mayDuel 12 = .ok (.getfield 19, 3) := by decide +kernel
theorem dX11_mayDuel_15 : decode cX11_mayDuel 15 = .ok (.iload_n 2, 1) := by decide +kernel
theorem dX11_mayDuel_16 : decode cX11_mayDuel 16 = .ok (.invokevirtual 154, 3) := by decide +kernel
theorem dX11_mayDuel_19 : decode cX11_mayDuel 19 = .ok (.ifCond .eq 34, 3) := by decide +kernel
theorem dX11_mayDuel_22 : decode cX11_mayDuel 22 = .ok (.iload_n 1, 1) := by decide +kernel
theorem dX11_mayDuel_23 : decode cX11_mayDuel 23 = .ok (.iload_n 2, 1) := by decide +kernel
theorem dX11_mayDuel_24 : decode cX11_mayDuel 24 = .ok (.if_icmp .eq 29, 3) := by decide +kernel
theorem dX11_mayDuel_27 : decode cX11_mayDuel 27 = .ok (.aload_n 0, 1) := by decide +kernel
theorem dX11_mayDuel_28 : decode cX11_mayDuel 28 = .ok (.getfield 56, 3) := by decide +kernel
theorem dX11_mayDuel_31 : decode cX11_mayDuel 31 = .ok (.iload_n 1, 1) := by decide +kernel
theorem dX11_mayDuel_32 : decode cX11_mayDuel 32 = .ok (.invokevirtual 236, 3) := by decide +kernel
theorem dX11_mayDuel_35 : decode cX11_mayDuel 35 = .ok (.ifCond .eq 18, 3) := by decide +kernel
theorem dX11_mayDuel_38 : decode cX11_mayDuel 38 = .ok (.aload_n 0, 1) := by decide +kernel
theorem dX11_mayDuel_39 : decode cX11_mayDuel 39 = .ok (.getfield 56, 3) := by decide +kernel
theorem dX11_mayDuel_42 : decode cX11_mayDuel 42 = .ok (.iload_n 2, 1) := by decide +kernel
theorem dX11_mayDuel_43 : decode cX11_mayDuel 43 = .ok (.invokevirtual 236, 3) := by decide +kernel
theorem dX11_mayDuel_46 : decode cX11_mayDuel 46 = .ok (.ifCond .eq 7, 3) := by decide +kernel
theorem dX11_mayDuel_49 : decode cX11_mayDuel 49 = .ok (.iconst 1, 1) := by decide +kernel
theorem dX11_mayDuel_50 : decode cX11_mayDuel 50 = .ok (.goto 4, 3) := by decide +kernel
theorem dX11_mayDuel_53 : decode cX11_mayDuel 53 = .ok (.iconst 0, 1) := by decide +kernel
theorem dX11_mayDuel_54 : decode cX11_mayDuel 54 = .ok (.ireturn, 1) := by decide +kernel
theorem dX11_placeOf_0 : decode cX11_placeOf 0 = .ok (.aload_n 0, 1) := by decide +kernel
theorem dX11_placeOf_1 : decode cX11_placeOf 1 = .ok (.getfield 77, 3) := by decide +kernel
theorem dX11_placeOf_4 : decode cX11_placeOf 4 = .ok (.aload_n 0, 1) := by decide +kernel
theorem dX11_placeOf_5 : decode cX11_placeOf 5 = .ok (.getfield 56, 3) := by decide +kernel
theorem dX11_placeOf_8 : decode cX11_placeOf 8 = .ok (.getfield 168, 3) := by decide +kernel
theorem dX11_placeOf_11 : decode cX11_placeOf 11 = .ok (.iload_n 1, 1) := by decide +kernel
theorem dX11_placeOf_12 : decode cX11_placeOf 12 = .ok (.iaload, 1) := by decide +kernel
theorem dX11_placeOf_13 : decode cX11_placeOf 13 = .ok (.aload_n 0, 1) := by decide +kernel
theorem dX11_placeOf_14 : decode cX11_placeOf 14 = .ok (.getfield 56, 3) := by decide +kernel
theorem dX11_placeOf_17 : decode cX11_placeOf 17 = .ok (.getfield 183, 3) := by decide +kernel
theorem dX11_placeOf_20 : decode cX11_placeOf 20 = .ok (.iload_n 1, 1) := by decide +kernel
theorem dX11_placeOf_21 : decode cX11_placeOf 21 = .ok (.iaload, 1) := by decide +kernel
theorem dX11_placeOf_22 : decode cX11_placeOf 22 = .ok (.invokevirtual 353, 3) := by decide +kernel
theorem dX11_placeOf_25 : decode cX11_placeOf 25 = .ok (.ireturn, 1) := by decide +kernel
theorem dX11_makeDuelReady_0 : decode cX11_makeDuelReady 0 = .ok (.aload_n 0, 1) := by decide +kernel
theorem dX11_makeDuelReady_1 : decode cX11_makeDuelReady 1 = .ok (.getfield 19, 3) := by decide +kernel
theorem dX11_makeDuelReady_4 : decode cX11_makeDuelReady 4 = .ok (.getfield 171, 3) := by decide +kernel
theorem dX11_makeDuelReady_7 : decode cX11_makeDuelReady 7 = .ok (.iload_n 1, 1) := by decide +kernel
theorem dX11_makeDuelReady_8 : decode cX11_makeDuelReady 8 = .ok (.iaload, 1) := by decide +kernel
theorem dX11_makeDuelReady_9 : decode cX11_makeDuelReady 9 = .ok (.istore_n 3, 1) := by decide +kernel
theorem dX11_makeDuelReady_10 : decode cX11_makeDuelReady 10 = .ok (.aload_n 0, 1) := by decide +kernel
theorem dX11_makeDuelReady_11 : decode cX11_makeDuelReady 11 = .ok (.getfield 19, 3) := by decide +kernel
theorem dX11_makeDuelReady_14 : decode cX11_makeDuelReady 14 = .ok (.getfield 171, 3) := by decide +kernel
theorem dX11_makeDuelReady_17 : decode cX11_makeDuelReady 17 = .ok (.iload_n 2, 1) := by decide +kernel
theorem dX11_makeDuelReady_18 : decode cX11_makeDuelReady 18 = .ok (.iaload, 1) := by decide +kernel
theorem dX11_makeDuelReady_19 : decode cX11_makeDuelReady 19 = .ok (.istore 4, 2) := by decide +kernel
theorem dX11_makeDuelReady_21 : decode cX11_makeDuelReady 21 = .ok (.aload_n 0, 1) := by decide +kernel
theorem dX11_makeDuelReady_22 : decode cX11_makeDuelReady 22 = .ok (.getfield 77, 3) := by decide +kernel
theorem dX11_makeDuelReady_25 : decode cX11_makeDuelReady 25 = .ok (.iload_n 3, 1) := by decide +kernel
theorem dX11_makeDuelReady_26 : decode cX11_makeDuelReady 26 = .ok (.iload 4, 2) := by decide +kernel
theorem dX11_makeDuelReady_28 : decode cX11_makeDuelReady 28 = .ok (.aload_n 0, 1) := by decide +kernel
theorem dX11_makeDuelReady_29 : decode cX11_makeDuelReady 29 = .ok (.iload_n 3, 1) := by decide +kernel
theorem dX11_makeDuelReady_30 : decode cX11_makeDuelReady 30 = .ok (.invokevirtual 355, 3) := by decide +kernel
theorem dX11_makeDuelReady_33 : decode cX11_makeDuelReady 33 = .ok (.aload_n 0, 1) := by decide +kernel
theorem dX11_makeDuelReady_34 : decode cX11_makeDuelReady 34 = .ok (.iload 4, 2) := by decide +kernel
theorem dX11_makeDuelReady_36 : decode cX11_makeDuelReady 36 = .ok (.invokevirtual 355, 3) := by decide +kernel
theorem dX11_makeDuelReady_39 : decode cX11_makeDuelReady 39 = .ok (.invokevirtual 358, 3) := by decide +kernel
theorem dX11_makeDuelReady_42 : decode cX11_makeDuelReady 42 = .ok (.return_, 1) := by decide +kernel
theorem dX11_farthestPlace_0 : decode cX11_farthestPlace 0 = .ok (.iconst 0, 1) := by decide +kernel
theorem dX11_farthestPlace_1 : decode cX11_farthestPlace 1 = .ok (.istore_n 2, 1) := by decide +kernel
theorem dX11_farthestPlace_2 : decode cX11_farthestPlace 2 = .ok (.iconst 0, 1) := by decide +kernel
theorem dX11_farthestPlace_3 : decode cX11_farthestPlace 3 = .ok (.istore_n 3, 1) := by decide +kernel
theorem dX11_farthestPlace_4 : decode cX11_farthestPlace 4 = .ok (.iload_n 3, 1) := by decide +kernel
theorem dX11_farthestPlace_5 : decode cX11_farthestPlace 5 = .ok (.aload_n 0, 1) := by decide +kernel
theorem dX11_farthestPlace_6 : decode cX11_farthestPlace 6 = .ok (.getfield 19, 3) := by decide +kernel
theorem dX11_farthestPlace_9 : decode cX11_farthestPlace 9 = .ok (.getfield 151, 3) := by decide +kernel
theorem dX11_farthestPlace_12 : decode cX11_farthestPlace 12 = .ok (.if_icmp .ge 32, 3) := by decide +kernel
theorem dX11_farthestPlace_15 : decode cX11_farthestPlace 15 = .ok (.aload_n 0, 1) := by decide +kernel
theorem dX11_farthestPlace_16 : decode cX11_farthestPlace 16 = .ok (.getfield 19, 3) := by decide +kernel
theorem dX11_farthestPlace_19 : decode cX11_farthestPlace 19 = .ok (.getfield 171, 3) := by decide +kernel
theorem dX11_farthestPlace_22 : decode cX11_farthestPlace 22 = .ok (.iload_n 3, 1) := by decide +kernel
theorem dX11_farthestPlace_23 : decode cX11_farthestPlace 23 = .ok (.iaload, 1) := by decide +kernel
theorem dX11_farthestPlace_24 : decode cX11_farthestPlace 24 = .ok (.iload_n 1, 1) := by decide +kernel
theorem dX11_farthestPlace_25 : decode cX11_farthestPlace 25 = .ok (.if_icmp .ne 13, 3) := by decide +kernel
theorem dX11_farthestPlace_28 : decode cX11_farthestPlace 28 = .ok (.iload_n 2, 1) := by decide +kernel
theorem dX11_farthestPlace_29 : decode cX11_farthestPlace 29 = .ok (.aload_n 0, 1) := by decide +kernel
theorem dX11_farthestPlace_30 : decode cX11_farthestPlace 30 = .ok (.iload_n 3, 1) := by decide +kernel
theorem dX11_farthestPlace_31 : decode cX11_farthestPlace 31 = .ok (.invokevirtual 326, 3) := by decide +kernel
theorem dX11_farthestPlace_34 : decode cX11_farthestPlace 34 = .ok (.invokestatic 362, 3) := by decide +kernel
theorem dX11_farthestPlace_37 : decode cX11_farthestPlace 37 = .ok (.istore_n 2, 1) := by decide +kernel
theorem dX11_farthestPlace_38 : decode cX11_farthestPlace 38 = .ok (.iinc 3 1, 3) := by decide +kernel
theorem dX11_farthestPlace_41 : decode cX11_farthestPlace 41 = .ok (.goto (-37), 3) := by decide +kernel
theorem dX11_farthestPlace_44 : decode cX11_farthestPlace 44 = .ok (.iload_n 2, 1) := by decide +kernel
theorem dX11_farthestPlace_45 : decode cX11_farthestPlace 45 = .ok (.ireturn, 1) := by decide +kernel
theorem dX11_escorts_0 : decode cX11_escorts 0 = .ok (.aload_n 0, 1) := by decide +kernel
theorem dX11_escorts_1 : decode cX11_escorts 1 = .ok (.iload_n 1, 1) := by decide +kernel
theorem dX11_escorts_2 : decode cX11_escorts 2 = .ok (.invokevirtual 344, 3) := by decide +kernel
theorem dX11_escorts_5 : decode cX11_escorts 5 = .ok (.ifCond .eq 12, 3) := by decide +kernel
theorem dX11_escorts_8 : decode cX11_escorts 8 = .ok (.iload_n 2, 1) := by decide +kernel
theorem dX11_escorts_9 : decode cX11_escorts 9 = .ok (.ifCond .lt 8, 3) := by decide +kernel
theorem dX11_escorts_12 : decode cX11_escorts 12 = .ok (.iload_n 2, 1) := by decide +kernel
theorem dX11_escorts_13 : decode cX11_escorts 13 = .ok (.iconst 1, 1) := by decide +kernel
theorem dX11_escorts_14 : decode cX11_escorts 14 = .ok (.if_icmp .le 5, 3) := by decide +kernel
theorem dX11_escorts_17 : decode cX11_escorts 17 = .ok (.iconst (-1), 1) := by decide +kernel
theorem dX11_escorts_18 : decode cX11_escorts 18 = .ok (.ireturn, 1) := by decide +kernel
theorem dX11_escorts_19 : decode cX11_escorts 19 = .ok (.aload_n 0, 1) := by decide +kernel
theorem dX11_escorts_20 : decode cX11_escorts 20 = .ok (.getfield 86, 3) := by decide +kernel
theorem dX11_escorts_23 : decode cX11_escorts 23 = .ok (.iload_n 1, 1) := by decide +kernel
theorem dX11_escorts_24 : decode cX11_escorts 24 = .ok (.invokevirtual 365, 3) := by decide +kernel
theorem dX11_escorts_27 : decode cX11_escorts 27 = .ok (.iload_n 2, 1) := by decide +kernel
theorem dX11_escorts_28 : decode cX11_escorts 28 = .ok (.ifCond .ne 13, 3) := by decide +kernel
theorem dX11_escorts_31 : decode cX11_escorts 31 = .ok (.aload_n 0, 1) := by decide +kernel
theorem dX11_escorts_32 : decode cX11_escorts 32 = .ok (.getfield 86, 3) := by decide +kernel
theorem dX11_escorts_35 : decode cX11_escorts 35 = .ok (.invokevirtual 368, 3) := by decide +kernel
theorem dX11_escorts_38 : decode cX11_escorts 38 = .ok (.goto 10, 3) := by decide +kernel
theorem dX11_escorts_41 : decode cX11_escorts 41 = .ok (.aload_n 0, 1) := by decide +kernel
theorem dX11_escorts_42 : decode cX11_escorts 42 = .ok (.getfield 86, 3) := by decide +kernel
theorem dX11_escorts_45 : decode cX11_escorts 45 = .ok (.invokevirtual 371, 3) := by decide +kernel
theorem dX11_escorts_48 : decode cX11_escorts 48 = .ok (.ireturn, 1) := by decide +kernel
theorem dX11_loophole_0 : decode cX11_loophole 0 = .ok (.aload_n 0, 1) := by decide +kernel
theorem dX11_loophole_1 : decode cX11_loophole 1 = .ok (.getfield 47, 3) := by decide +kernel
theorem dX11_loophole_4 : decode cX11_loophole 4 = .ok (.iload_n 1, 1) := by decide +kernel
theorem dX11_loophole_5 : decode cX11_loophole 5 = .ok (.invokevirtual 203, 3) := by decide +kernel
theorem dX11_loophole_8 : decode cX11_loophole 8 = .ok (.ifCond .eq 21, 3) := by decide +kernel
theorem dX11_loophole_11 : decode cX11_loophole 11 = .ok (.aload_n 0, 1) := by decide +kernel
theorem dX11_loophole_12 : decode cX11_loophole 12 = .ok (.getfield 19, 3) := by decide +kernel
theorem dX11_loophole_15 : decode cX11_loophole 15 = .ok (.getfield 151, 3) := by decide +kernel
theorem dX11_loophole_18 : decode cX11_loophole 18 = .ok (.ifCond .le 11, 3) := by decide +kernel
theorem dX11_loophole_21 : decode cX11_loophole 21 = .ok (.aload_n 0, 1) := by decide +kernel
theorem dX11_loophole_22 : decode cX11_loophole 22 = .ok (.iload_n 1, 1) := by decide +kernel
theorem dX11_loophole_23 : decode cX11_loophole 23 = .ok (.invokevirtual 374, 3) := by decide +kernel
theorem dX11_loophole_26 : decode cX11_loophole 26 = .ok (.goto 4, 3) := by decide +kernel
theorem dX11_loophole_29 : decode cX11_loophole 29 = .ok (.iconst (-1), 1) := by decide +kernel
theorem dX11_loophole_30 : decode cX11_loophole 30 = .ok (.ireturn, 1) := by decide +kernel
theorem dX11_loopholeBits_0 : decode cX11_loopholeBits 0 = .ok (.iconst 0, 1) := by decide +kernel
theorem dX11_loopholeBits_1 : decode cX11_loopholeBits 1 = .ok (.istore_n 2, 1) := by decide +kernel
theorem dX11_loopholeBits_2 : decode cX11_loopholeBits 2 = .ok (.iconst 0, 1) := by decide +kernel
theorem dX11_loopholeBits_3 : decode cX11_loopholeBits 3 = .ok (.istore_n 3, 1) := by decide +kernel
theorem dX11_loopholeBits_4 : decode cX11_loopholeBits 4 = .ok (.iload_n 3, 1) := by decide +kernel
theorem dX11_loopholeBits_5 : decode cX11_loopholeBits 5 = .ok (.aload_n 0, 1) := by decide +kernel
theorem dX11_loopholeBits_6 : decode cX11_loopholeBits 6 = .ok (.getfield 19, 3) := by decide +kernel
theorem dX11_loopholeBits_9 : decode cX11_loopholeBits 9 = .ok (.getfield 151, 3) := by decide +kernel
theorem dX11_loopholeBits_12 : decode cX11_loopholeBits 12 = .ok (.if_icmp .ge 38, 3) := by decide +kernel
theorem dX11_loopholeBits_15 : decode cX11_loopholeBits 15 = .ok (.aload_n 0, 1) := by decide +kernel
theorem dX11_loopholeBits_16 : decode cX11_loopholeBits 16 = .ok (.getfield 56, 3) := by decide +kernel
theorem dX11_loopholeBits_19 : decode cX11_loopholeBits 19 = .ok (.iload_n 3, 1) := by decide +kernel
theorem dX11_loopholeBits_20 : decode cX11_loopholeBits 20 = .ok (.invokevirtual 236, 3) := by decide +kernel
theorem dX11_loopholeBits_23 : decode cX11_loopholeBits 23 = .ok (.ifCond .eq 21, 3) := by decide +kernel
theorem dX11_loopholeBits_26 : decode cX11_loopholeBits 26 = .ok (.aload_n 0, 1) := by decide +kernel
theorem dX11_loopholeBits_27 : decode cX11_loopholeBits 27 = .ok (.getfield 56, 3) := by decide +kernel
theorem dX11_loopholeBits_30 : decode cX11_loopholeBits 30 = .ok (.iload_n 1, 1) := by decide +kernel
theorem dX11_loopholeBits_31 : decode cX11_loopholeBits 31 = .ok (.iload_n 3, 1) := by decide +kernel
theorem dX11_loopholeBits_32 : decode cX11_loopholeBits 32 = .ok (.invokevirtual 377, 3) := by decide +kernel
theorem dX11_loopholeBits_35 : decode cX11_loopholeBits 35 = .ok (.ifCond .eq 9, 3) := by decide +kernel
theorem dX11_loopholeBits_38 : decode cX11_loopholeBits 38 = .ok (.iload_n 2, 1) := by decide +kernel
theorem dX11_loopholeBits_39 : decode cX11_loopholeBits 39 = .ok (.iconst 1, 1) := by decide +kernel
theorem dX11_loopholeBits_40 : decode cX11_loopholeBits 40 = .ok (.iload_n 3, 1) := by decide +kernel
theorem dX11_loopholeBits_41 : decode cX11_loopholeBits 41 = .ok (.ishl, 1) := by decide +kernel
theorem dX11_loopholeBits_42 : decode cX11_loopholeBits 42 = .ok (.ior, 1) := by decide +kernel
theorem dX11_loopholeBits_43 : decode cX11_loopholeBits 43 = .ok (.istore_n 2, 1) := by decide +kernel
theorem dX11_loopholeBits_44 : decode cX11_loopholeBits 44 = .ok (.iinc 3 1, 3) := by decide +kernel
theorem dX11_loopholeBits_47 : decode cX11_loopholeBits 47 = .ok (.goto (-43), 3) := by decide +kernel
theorem dX11_loopholeBits_50 : decode cX11_loopholeBits 50 = .ok (.iload_n 2, 1) := by decide +kernel
theorem dX11_loopholeBits_51 : decode cX11_loopholeBits 51 = .ok (.ireturn, 1) := by decide +kernel
theorem dX11_closed_0 : decode cX11_closed 0 = .ok (.aload_n 0, 1) := by decide +kernel
theorem dX11_closed_1 : decode cX11_closed 1 = .ok (.getfield 19, 3) := by decide +kernel
theorem dX11_closed_4 : decode cX11_closed 4 = .ok (.getfield 151, 3) := by decide +kernel
theorem dX11_closed_7 : decode cX11_closed 7 = .ok (.ifCond .eq 13, 3) := by decide +kernel
theorem dX11_closed_10 : decode cX11_closed 10 = .ok (.aload_n 0, 1) := by decide +kernel
theorem dX11_closed_11 : decode cX11_closed 11 = .ok (.getfield 47, 3) := by decide +kernel
theorem dX11_closed_14 : decode cX11_closed 14 = .ok (.getfield 129, 3) := by decide +kernel
theorem dX11_closed_17 : decode cX11_closed 17 = .ok (.ifCond .ne 5, 3) := by decide +kernel
theorem dX11_closed_20 : decode cX11_closed 20 = .ok (.iconst (-1), 1) := by decide +kernel
theorem dX11_closed_21 : decode cX11_closed 21 = .ok (.ireturn, 1) := by decide +kernel
theorem dX11_closed_22 : decode cX11_closed 22 = .ok (.iconst 0, 1) := by decide +kernel
theorem dX11_closed_23 : decode cX11_closed 23 = .ok (.istore_n 1, 1) := by decide +kernel
theorem dX11_closed_24 : decode cX11_closed 24 = .ok (.iload_n 1, 1) := by decide +kernel
theorem dX11_closed_25 : decode cX11_closed 25 = .ok (.aload_n 0, 1) := by decide +kernel
theorem dX11_closed_26 : decode cX11_closed 26 = .ok (.getfield 47, 3) := by decide +kernel
theorem dX11_closed_29 : decode cX11_closed 29 = .ok (.getfield 129, 3) := by decide +kernel
theorem dX11_closed_32 : decode cX11_closed 32 = .ok (.if_icmp .ge 23, 3) := by decide +kernel
theorem dX11_closed_35 : decode cX11_closed 35 = .ok (.aload_n 0, 1) := by decide +kernel
theorem dX11_closed_36 : decode cX11_closed 36 = .ok (.getfield 47, 3) := by decide +kernel
theorem dX11_closed_39 : decode cX11_closed 39 = .ok (.getfield 380, 3) := by decide +kernel
theorem dX11_closed_42 : decode cX11_closed 42 = .ok (.iload_n 1, 1) := by decide +kernel
theorem dX11_closed_43 : decode cX11_closed 43 = .ok (.aload_n 0, 1) := by decide +kernel
theorem dX11_closed_44 : decode cX11_closed 44 = .ok (.iload_n 1, 1) := by decide +kernel
theorem dX11_closed_45 : decode cX11_closed 45 = .ok (.invokevirtual 374, 3) := by decide +kernel
theorem dX11_closed_48 : decode cX11_closed 48 = .ok (.iastore, 1) := by decide +kernel
theorem dX11_closed_49 : decode cX11_closed 49 = .ok (.iinc 1 1, 3) := by decide +kernel
theorem dX11_closed_52 : decode cX11_closed 52 = .ok (.goto (-28), 3) := by decide +kernel
theorem dX11_closed_55 : decode cX11_closed 55 = .ok (.iconst (-1), 1) := by decide +kernel
theorem dX11_closed_56 : decode cX11_closed 56 = .ok (.istore_n 1, 1) := by decide +kernel
theorem dX11_closed_57 : decode cX11_closed 57 = .ok (.iconst 1, 1) := by decide +kernel
theorem dX11_closed_58 : decode cX11_closed 58 = .ok (.istore_n 2, 1) := by decide +kernel
theorem dX11_closed_59 : decode cX11_closed 59 = .ok (.iload_n 2, 1) := by decide +kernel
theorem dX11_closed_60 : decode cX11_closed 60 = .ok (.iconst 1, 1) := by decide +kernel
theorem dX11_closed_61 : decode cX11_closed 61 = .ok (.aload_n 0, 1) := by decide +kernel
theorem dX11_closed_62 : decode cX11_closed 62 = .ok (.getfield 47, 3) := by decide +kernel
theorem dX11_closed_65 : decode cX11_closed 65 = .ok (.getfield 129, 3) := by decide +kernel
theorem dX11_closed_68 : decode cX11_closed 68 = .ok (.ishl, 1) := by decide +kernel
theorem dX11_closed_69 : decode cX11_closed 69 = .ok (.if_icmp .ge 48, 3) := by decide +kernel
theorem dX11_closed_72 : decode cX11_closed 72 = .ok (.iload_n 1, 1) := by decide +kernel
theorem dX11_closed_73 : decode cX11_closed 73 = .ok (.iconst (-1), 1) := by decide +kernel
theorem dX11_closed_74 : decode cX11_closed 74 = .ok (.if_icmp .eq 14, 3) := by decide +kernel
theorem dX11_closed_77 : decode cX11_closed 77 = .ok (.iload_n 2, 1) := by decide +kernel
theorem dX11_closed_78 : decode cX11_closed 78 = .ok (.invokestatic 383, 3) := by decide +kernel
theorem dX11_closed_81 : decode cX11_closed 81 = .ok (.iload_n 1, 1) := by decide +kernel
theorem dX11_closed_82 : decode cX11_closed 82 = .ok (.invokestatic 383, 3) := by decide +kernel
theorem dX11_closed_85 : decode cX11_closed 85 = .ok (.if_icmp .ge 7, 3) := by decide +kernel
theorem dX11_closed_88 : decode cX11_closed 88 = .ok (.iconst 1, 1) := by decide +kernel
theorem dX11_closed_89 : decode cX11_closed 89 = .ok (.goto 4, 3) := by decide +kernel
theorem dX11_closed_92 : decode cX11_closed 92 = .ok (.iconst 0, 1) := by decide +kernel
theorem dX11_closed_93 : decode cX11_closed 93 = .ok (.istore_n 3, 1) := by decide +kernel
theorem dX11_closed_94 : decode cX11_closed 94 = .ok (.iload_n 3, 1) := by decide +kernel
theorem dX11_closed_95 : decode cX11_closed 95 = .ok (.ifCond .eq 16, 3) := by decide +kernel
theorem dX11_closed_98 : decode cX11_closed 98 = .ok (.aload_n 0, 1) := by decide +kernel
theorem dX11_closed_99 : decode cX11_closed 99 = .ok (.getfield 47, 3) := by decide +kernel
theorem dX11_closed_102 : decode cX11_closed 102 = .ok (.iload_n 2, 1) := by decide +kernel
theorem dX11_closed_103 : decode cX11_closed 103 = .ok (.invokevirtual 388, 3) := by decide +kernel
theorem dX11_closed_106 : decode cX11_closed 106 = .ok (.ifCond .ne 5, 3) := by decide +kernel
theorem dX11_closed_109 : decode cX11_closed 109 = .ok (.iload_n 2, 1) := by decide +kernel
theorem dX11_closed_110 : decode cX11_closed 110 = .ok (.istore_n 1, 1) := by decide +kernel
theorem dX11_closed_111 : decode cX11_closed 111 = .ok (.iinc 2 1, 3) := by decide +kernel
theorem dX11_closed_114 : decode cX11_closed 114 = .ok (.goto (-55), 3) := by decide +kernel
theorem dX11_closed_117 : decode cX11_closed 117 = .ok (.iload_n 1, 1) := by decide +kernel
theorem dX11_closed_118 : decode cX11_closed 118 = .ok (.ireturn, 1) := by decide +kernel
theorem dX11_reads_0 : decode cX11_reads 0 = .ok (.aload_n 0, 1) := by decide +kernel
theorem dX11_reads_1 : decode cX11_reads 1 = .ok (.getfield 19, 3) := by decide +kernel
theorem dX11_reads_4 : decode cX11_reads 4 = .ok (.iload_n 1, 1) := by decide +kernel
theorem dX11_reads_5 : decode cX11_reads 5 = .ok (.invokevirtual 154, 3) := by decide +kernel
theorem dX11_reads_8 : decode cX11_reads 8 = .ok (.ifCond .ne 5, 3) := by decide +kernel
theorem dX11_reads_11 : decode cX11_reads 11 = .ok (.iconst (-1), 1) := by decide +kernel
theorem dX11_reads_12 : decode cX11_reads 12 = .ok (.ireturn, 1) := by decide +kernel
theorem dX11_reads_13 : decode cX11_reads 13 = .ok (.iconst 0, 1) := by decide +kernel
theorem dX11_reads_14 : decode cX11_reads 14 = .ok (.istore_n 2, 1) := by decide +kernel
theorem dX11_reads_15 : decode cX11_reads 15 = .ok (.iconst 0, 1) := by decide +kernel
theorem dX11_reads_16 : decode cX11_reads 16 = .ok (.istore_n 3, 1) := by decide +kernel
theorem dX11_reads_17 : decode cX11_reads 17 = .ok (.iload_n 3, 1) := by decide +kernel
theorem dX11_reads_18 : decode cX11_reads 18 = .ok (.aload_n 0, 1) := by decide +kernel
theorem dX11_reads_19 : decode cX11_reads 19 = .ok (.getfield 47, 3) := by decide +kernel
theorem dX11_reads_22 : decode cX11_reads 22 = .ok (.getfield 129, 3) := by decide +kernel
theorem dX11_reads_25 : decode cX11_reads 25 = .ok (.if_icmp .ge 27, 3) := by decide +kernel
theorem dX11_reads_28 : decode cX11_reads 28 = .ok (.aload_n 0, 1) := by decide +kernel
theorem dX11_reads_29 : decode cX11_reads 29 = .ok (.getfield 56, 3) := by decide +kernel
theorem dX11_reads_32 : decode cX11_reads 32 = .ok (.iload_n 3, 1) := by decide +kernel
theorem dX11_reads_33 : decode cX11_reads 33 = .ok (.iload_n 1, 1) := by decide +kernel
theorem dX11_reads_34 : decode cX11_reads 34 = .ok (.invokevirtual 377, 3) := by decide +kernel
theorem dX11_reads_37 : decode cX11_reads 37 = .ok (.ifCond .eq 9, 3) := by decide +kernel
theorem dX11_reads_40 : decode cX11_reads 40 = .ok (.iload_n 2, 1) := by decide +kernel
theorem dX11_reads_41 : decode cX11_reads 41 = .ok (.iconst 1, 1) := by decide +kernel
theorem dX11_reads_42 : decode cX11_reads 42 = .ok (.iload_n 3, 1) := by decide +kernel
theorem dX11_reads_43 : decode cX11_reads 43 = .ok (.ishl, 1) := by decide +kernel
theorem dX11_reads_44 : decode cX11_reads 44 = .ok (.ior, 1) := by decide +kernel
theorem dX11_reads_45 : decode cX11_reads 45 = .ok (.istore_n 2, 1) := by decide +kernel
theorem dX11_reads_46 : decode cX11_reads 46 = .ok (.iinc 3 1, 3) := by decide +kernel
theorem dX11_reads_49 : decode cX11_reads 49 = .ok (.goto (-32), 3) := by decide +kernel
theorem dX11_reads_52 : decode cX11_reads 52 = .ok (.iload_n 2, 1) := by decide +kernel
theorem dX11_reads_53 : decode cX11_reads 53 = .ok (.ireturn, 1) := by decide +kernel
theorem dX11_away_0 : decode cX11_away 0 = .ok (.aload_n 0, 1) := by decide +kernel
theorem dX11_away_1 : decode cX11_away 1 = .ok (.getfield 19, 3) := by decide +kernel
theorem dX11_away_4 : decode cX11_away 4 = .ok (.iload_n 1, 1) := by decide +kernel
theorem dX11_away_5 : decode cX11_away 5 = .ok (.invokevirtual 154, 3) := by decide +kernel
theorem dX11_away_8 : decode cX11_away 8 = .ok (.ifCond .ne 5, 3) := by decide +kernel
theorem dX11_away_11 : decode cX11_away 11 = .ok (.iconst (-1), 1) := by decide +kernel
theorem dX11_away_12 : decode cX11_away 12 = .ok (.ireturn, 1) := by decide +kernel
theorem dX11_away_13 : decode cX11_away 13 = .ok (.aload_n 0, 1) := by decide +kernel
theorem dX11_away_14 : decode cX11_away 14 = .ok (.getfield 56, 3) := by decide +kernel
theorem dX11_away_17 : decode cX11_away 17 = .ok (.getfield 168, 3) := by decide +kernel
theorem dX11_away_20 : decode cX11_away 20 = .ok (.iload_n 1, 1) := by decide +kernel
theorem dX11_away_21 : decode cX11_away 21 = .ok (.iaload, 1) := by decide +kernel
theorem dX11_away_22 : decode cX11_away 22 = .ok (.aload_n 0, 1) := by decide +kernel
theorem dX11_away_23 : decode cX11_away 23 = .ok (.getfield 56, 3) := by decide +kernel
theorem dX11_away_26 : decode cX11_away 26 = .ok (.getfield 183, 3) := by decide +kernel
theorem dX11_away_29 : decode cX11_away 29 = .ok (.iload_n 1, 1) := by decide +kernel
theorem dX11_away_30 : decode cX11_away 30 = .ok (.iaload, 1) := by decide +kernel
theorem dX11_away_31 : decode cX11_away 31 = .ok (.iadd, 1) := by decide +kernel
theorem dX11_away_32 : decode cX11_away 32 = .ok (.istore_n 2, 1) := by decide +kernel
theorem dX11_away_33 : decode cX11_away 33 = .ok (.iconst 0, 1) := by decide +kernel
theorem dX11_away_34 : decode cX11_away 34 = .ok (.istore_n 3, 1) := by decide +kernel
theorem dX11_away_35 : decode cX11_away 35 = .ok (.iload_n 3, 1) := by decide +kernel
theorem dX11_away_36 : decode cX11_away 36 = .ok (.aload_n 0, 1) := by decide +kernel
theorem dX11_away_37 : decode cX11_away 37 = .ok (.getfield 19, 3) := by decide +kernel
theorem dX11_away_40 : decode cX11_away 40 = .ok (.getfield 194, 3) := by decide +kernel
theorem dX11_away_43 : decode cX11_away 43 = .ok (.if_icmp .ge 46, 3) := by decide +kernel
theorem dX11_away_46 : decode cX11_away 46 = .ok (.iload_n 2, 1) := by decide +kernel
theorem dX11_away_47 : decode cX11_away 47 = .ok (.aload_n 0, 1) := by decide +kernel
theorem dX11_away_48 : decode cX11_away 48 = .ok (.getfield 19, 3) := by decide +kernel
theorem dX11_away_51 : decode cX11_away 51 = .ok (.getfield 197, 3) := by decide +kernel
theorem dX11_away_54 : decode cX11_away 54 = .ok (.iload_n 3, 1) := by decide +kernel
theorem dX11_away_55 : decode cX11_away 55 = .ok (.iaload, 1) := by decide +kernel
theorem dX11_away_56 : decode cX11_away 56 = .ok (.aload_n 0, 1) := by decide +kernel
theorem dX11_away_57 : decode cX11_away 57 = .ok (.getfield 56, 3) := by decide +kernel
theorem dX11_away_60 : decode cX11_away 60 = .ok (.getfield 168, 3) := by decide +kernel
theorem dX11_away_63 : decode cX11_away 63 = .ok (.iload_n 1, 1) := by decide +kernel
theorem dX11_away_64 : decode cX11_away 64 = .ok (.iaload, 1) := by decide +kernel
theorem dX11_away_65 : decode cX11_away 65 = .ok (.if_icmp .ge 15, 3) := by decide +kernel
theorem dX11_away_68 : decode cX11_away 68 = .ok (.aload_n 0, 1) := by decide +kernel
theorem dX11_away_69 : decode cX11_away 69 = .ok (.getfield 19, 3) := by decide +kernel
theorem dX11_away_72 : decode cX11_away 72 = .ok (.getfield 200, 3) := by decide +kernel
theorem dX11_away_75 : decode cX11_away 75 = .ok (.iload_n 3, 1) := by decide +kernel
theorem dX11_away_76 : decode cX11_away 76 = .ok (.iaload, 1) := by decide +kernel
theorem dX11_away_77 : decode cX11_away 77 = .ok (.goto 4, 3) := by decide +kernel
theorem dX11_away_80 : decode cX11_away 80 = .ok (.iconst 0, 1) := by decide +kernel
theorem dX11_away_81 : decode cX11_away 81 = .ok (.iadd, 1) := by decide +kernel
theorem dX11_away_82 : decode cX11_away 82 = .ok (.istore_n 2, 1) := by decide +kernel
theorem dX11_away_83 : decode cX11_away 83 = .ok (.iinc 3 1, 3) := by decide +kernel
theorem dX11_away_86 : decode cX11_away 86 = .ok (.goto (-51), 3) := by decide +kernel
theorem dX11_away_89 : decode cX11_away 89 = .ok (.iload_n 2, 1) := by decide +kernel
theorem dX11_away_90 : decode cX11_away 90 = .ok (.ireturn, 1) := by decide +kernel
theorem dX11_forced_0 : decode cX11_forced 0 = .ok (.aload_n 0, 1) := by decide +kernel
theorem dX11_forced_1 : decode cX11_forced 1 = .ok (.getfield 19, 3) := by decide +kernel
theorem dX11_forced_4 : decode cX11_forced 4 = .ok (.iload_n 1, 1) := by decide +kernel
theorem dX11_forced_5 : decode cX11_forced 5 = .ok (.invokevirtual 154, 3) := by decide +kernel
theorem dX11_forced_8 : decode cX11_forced 8 = .ok (.ifCond .ne 5, 3) := by decide +kernel
theorem dX11_forced_11 : decode cX11_forced 11 = .ok (.iconst (-1), 1) := by decide +kernel
theorem dX11_forced_12 : decode cX11_forced 12 = .ok (.ireturn, 1) := by decide +kernel
theorem dX11_forced_13 : decode cX11_forced 13 = .ok (.aload_n 0, 1) := by decide +kernel
theorem dX11_forced_14 : decode cX11_forced 14 = .ok (.getfield 56, 3) := by decide +kernel
theorem dX11_forced_17 : decode cX11_forced 17 = .ok (.getfield 168, 3) := by decide +kernel
theorem dX11_forced_20 : decode cX11_forced 20 = .ok (.iload_n 1, 1) := by decide +kernel
theorem dX11_forced_21 : decode cX11_forced 21 = .ok (.iaload, 1) := by decide +kernel
theorem dX11_forced_22 : decode cX11_forced 22 = .ok (.istore_n 2, 1) := by decide +kernel
theorem dX11_forced_23 : decode cX11_forced 23 = .ok (.iconst 0, 1) := by decide +kernel
theorem dX11_forced_24 : decode cX11_forced 24 = .ok (.istore_n 3, 1) := by decide +kernel
theorem dX11_forced_25 : decode cX11_forced 25 = .ok (.iconst 1, 1) := by decide +kernel
theorem dX11_forced_26 : decode cX11_forced 26 = .ok (.istore 4, 2) := by decide +kernel
theorem dX11_forced_28 : decode cX11_forced 28 = .ok (.iload 4, 2) := by decide +kernel
theorem dX11_forced_30 : decode cX11_forced 30 = .ok (.bipush 20, 2) := by decide +kernel
theorem dX11_forced_32 : decode cX11_forced 32 = .ok (.if_icmp .gt 28, 3) := by decide +kernel
theorem dX11_forced_35 : decode cX11_forced 35 = .ok (.iload_n 2, 1) := by decide +kernel
theorem dX11_forced_36 : decode cX11_forced 36 = .ok (.ifCond .le 24, 3) := by decide +kernel
theorem dX11_forced_39 : decode cX11_forced 39 = .ok (.iload_n 2, 1) := by decide +kernel
theorem dX11_forced_40 : decode cX11_forced 40 = .ok (.iconst 1, 1) := by decide +kernel
theorem dX11_forced_41 : decode cX11_forced 41 = .ok (.aload_n 0, 1) := by decide +kernel
theorem dX11_forced_42 : decode cX11_forced 42 = .ok (.iload_n 1, 1) := by decide +kernel
theorem dX11_forced_43 : decode cX11_forced 43 = .ok (.iload 4, 2) := by decide +kernel
theorem dX11_forced_45 : decode cX11_forced 45 = .ok (.invokevirtual 391, 3) := by decide +kernel
theorem dX11_forced_48 : decode cX11_forced 48 = .ok (.iadd, 1) := by decide +kernel
theorem dX11_forced_49 : decode cX11_forced 49 = .ok (.isub, 1) := by decide +kernel
theorem dX11_forced_50 : decode cX11_forced 50 = .ok (.istore_n 2, 1) := by decide +kernel
theorem dX11_forced_51 : decode cX11_forced 51 = .ok (.iload 4, 2) := by decide +kernel
theorem dX11_forced_53 : decode cX11_forced 53 = .ok (.istore_n 3, 1) := by decide +kernel
theorem dX11_forced_54 : decode cX11_forced 54 = .ok (.iinc 4 1, 3) := by decide +kernel
theorem dX11_forced_57 : decode cX11_forced 57 = .ok (.goto (-29), 3) := by decide +kernel
theorem dX11_forced_60 : decode cX11_forced 60 = .ok (.iload_n 3, 1) := by decide +kernel
theorem dX11_forced_61 : decode cX11_forced 61 = .ok (.ireturn, 1) := by decide +kernel
theorem dX11_pressOnDay_0 : decode cX11_pressOnDay 0 = .ok (.iconst 0, 1) := by decide +kernel
theorem dX11_pressOnDay_1 : decode cX11_pressOnDay 1 = .ok (.istore_n 3, 1) := by decide +kernel
theorem dX11_pressOnDay_2 : decode cX11_pressOnDay 2 = .ok (.iconst 0, 1) := by decide +kernel
theorem dX11_pressOnDay_3 : decode cX11_pressOnDay 3 = .ok (.istore 4, 2) := by decide +kernel
theorem dX11_pressOnDay_5 : decode cX11_pressOnDay 5 = .ok (.iload 4, 2) := by decide +kernel
theorem dX11_pressOnDay_7 : decode cX11_pressOnDay 7 = .ok (.aload_n 0, 1) := by decide +kernel
theorem dX11_pressOnDay_8 : decode cX11_pressOnDay 8 = .ok (.getfield 19, 3) := by decide +kernel
theorem dX11_pressOnDay_11 : decode cX11_pressOnDay 11 = .ok (.getfield 151, 3) := by decide +kernel
theorem dX11_pressOnDay_14 : decode cX11_pressOnDay 14 = .ok (.if_icmp .ge 58, 3) := by decide +kernel
theorem dX11_pressOnDay_17 : decode cX11_pressOnDay 17 = .ok (.aload_n 0, 1) := by decide +kernel
theorem dX11_pressOnDay_18 : decode cX11_pressOnDay 18 = .ok (.getfield 19, 3) := by decide +kernel
theorem dX11_pressOnDay_21 : decode cX11_pressOnDay 21 = .ok (.getfield 165, 3) := by decide +kernel
theorem dX11_pressOnDay_24 : decode cX11_pressOnDay 24 = .ok (.iload 4, 2) := by decide +kernel
theorem dX11_pressOnDay_26 : decode cX11_pressOnDay 26 = .ok (.iaload, 1) := by decide +kernel
theorem dX11_pressOnDay_27 : decode cX11_pressOnDay 27 = .ok (.aload_n 0, 1) := by decide +kernel
theorem dX11_pressOnDay_28 : decode cX11_pressOnDay 28 = .ok (.getfield 19, 3) := by decide +kernel
theorem dX11_pressOnDay_31 : decode cX11_pressOnDay 31 = .ok (.getfield 165, 3) := by decide +kernel
theorem dX11_pressOnDay_34 : decode cX11_pressOnDay 34 = .ok (.iload_n 1, 1) := by decide +kernel
theorem dX11_pressOnDay_35 : decode cX11_pressOnDay 35 = .ok (.iaload, 1) := by decide +kernel
theorem dX11_pressOnDay_36 : decode cX11_pressOnDay 36 = .ok (.if_icmp .eq 30, 3) := by decide +kernel
theorem dX11_pressOnDay_39 : decode cX11_pressOnDay 39 = .ok (.aload_n 0, 1) := by decide +kernel
theorem dX11_pressOnDay_40 : decode cX11_pressOnDay 40 = .ok (.getfield 56, 3) := by decide +kernel
theorem dX11_pressOnDay_43 : decode cX11_pressOnDay 43 = .ok (.getfield 183, 3) := by decide +kernel
theorem dX11_pressOnDay_46 : decode cX11_pressOnDay 46 = .ok (.iload 4, 2) := by decide +kernel
theorem dX11_pressOnDay_48 : decode cX11_pressOnDay 48 = .ok (.iaload, 1) := by decide +kernel
theorem dX11_pressOnDay_49 : decode cX11_pressOnDay 49 = .ok (.iload_n 2, 1) := by decide +kernel
theorem dX11_pressOnDay_50 : decode cX11_pressOnDay 50 = .ok (.if_icmp .lt 16, 3) := by decide +kernel
theorem dX11_pressOnDay_53 : decode cX11_pressOnDay 53 = .ok (.iload_n 3, 1) := by decide +kernel
theorem dX11_pressOnDay_54 : decode cX11_pressOnDay 54 = .ok (.aload_n 0, 1) := by decide +kernel
theorem dX11_pressOnDay_55 : decode cX11_pressOnDay 55 = .ok (.getfield 19, 3) := by decide +kernel
theorem dX11_pressOnDay_58 : decode cX11_pressOnDay 58 = .ok (.getfield 171, 3) := by decide +kernel
theorem dX11_pressOnDay_61 : decode cX11_pressOnDay 61 = .ok (.iload 4, 2) := by decide +kernel
theorem dX11_pressOnDay_63 : decode cX11_pressOnDay 63 = .ok (.iaload, 1) := by decide +kernel
theorem dX11_pressOnDay_64 : decode cX11_pressOnDay 64 = .ok (.iadd, 1) := by decide +kernel
theorem dX11_pressOnDay_65 : decode cX11_pressOnDay 65 = .ok (.istore_n 3, 1) := by decide +kernel
theorem dX11_pressOnDay_66 : decode cX11_pressOnDay 66 = .ok (.iinc 4 1, 3) := by decide +kernel
theorem dX11_pressOnDay_69 : decode cX11_pressOnDay 69 = .ok (.goto (-64), 3) := by decide +kernel
theorem dX11_pressOnDay_72 : decode cX11_pressOnDay 72 = .ok (.iload_n 3, 1) := by decide +kernel
theorem dX11_pressOnDay_73 : decode cX11_pressOnDay 73 = .ok (.ireturn, 1) := by decide +kernel
theorem dX11_soonest_0 : decode cX11_soonest 0 = .ok (.aload_n 0, 1) := by decide +kernel
theorem dX11_soonest_1 : decode cX11_soonest 1 = .ok (.iload_n 1, 1) := by decide +kernel
theorem dX11_soonest_2 : decode cX11_soonest 2 = .ok (.invokevirtual 394, 3) := by decide +kernel
theorem dX11_soonest_5 : decode cX11_soonest 5 = .ok (.istore_n 2, 1) := by decide +kernel
theorem dX11_soonest_6 : decode cX11_soonest 6 = .ok (.iload_n 2, 1) := by decide +kernel
theorem dX11_soonest_7 : decode cX11_soonest 7 = .ok (.iconst (-1), 1) := by decide +kernel
theorem dX11_soonest_8 : decode cX11_soonest 8 = .ok (.if_icmp .ne 7, 3) := by decide +kernel
theorem dX11_soonest_11 : decode cX11_soonest 11 = .ok (.iconst (-1), 1) := by decide +kernel
theorem dX11_soonest_12 : decode cX11_soonest 12 = .ok (.goto 12, 3) := by decide +kernel
theorem dX11_soonest_15 : decode cX11_soonest 15 = .ok (.aload_n 0, 1) := by decide +kernel
theorem dX11_soonest_16 : decode cX11_soonest 16 = .ok (.getfield 56, 3) := by decide +kernel
theorem dX11_soonest_19 : decode cX11_soonest 19 = .ok (.getfield 168, 3) := by decide +kernel
theorem dX11_soonest_22 : decode cX11_soonest 22 = .ok (.iload_n 2, 1) := by decide +kernel
theorem dX11_soonest_23 : decode cX11_soonest 23 = .ok (.iaload, 1) := by decide +kernel
theorem dX11_soonest_24 : decode cX11_soonest 24 = .ok (.ireturn, 1) := by decide +kernel
theorem dX11_pony_0 : decode cX11_pony 0 = .ok (.aload_n 0, 1) := by decide +kernel
theorem dX11_pony_1 : decode cX11_pony 1 = .ok (.iload_n 1, 1) := by decide +kernel
theorem dX11_pony_2 : decode cX11_pony 2 = .ok (.invokevirtual 344, 3) := by decide +kernel
theorem dX11_pony_5 : decode cX11_pony 5 = .ok (.ifCond .ne 5, 3) := by decide +kernel
theorem dX11_pony_8 : decode cX11_pony 8 = .ok (.iconst (-1), 1) := by decide +kernel
theorem dX11_pony_9 : decode cX11_pony 9 = .ok (.ireturn, 1) := by decide +kernel
theorem dX11_pony_10 : decode cX11_pony 10 = .ok (.aload_n 0, 1) := by decide +kernel
theorem dX11_pony_11 : decode cX11_pony 11 = .ok (.aload_n 0, 1) := by decide +kernel
theorem dX11_pony_12 : decode cX11_pony 12 = .ok (.getfield 19, 3) := by decide +kernel
theorem dX11_pony_15 : decode cX11_pony 15 = .ok (.getfield 397, 3) := by decide +kernel
theorem dX11_pony_18 : decode cX11_pony 18 = .ok (.iload_n 1, 1) := by decide +kernel
theorem dX11_pony_19 : decode cX11_pony 19 = .ok (.iaload, 1) := by decide +kernel
theorem dX11_pony_20 : decode cX11_pony 20 = .ok (.invokevirtual 400, 3) := by decide +kernel
theorem dX11_pony_23 : decode cX11_pony 23 = .ok (.ireturn, 1) := by decide +kernel
theorem dX11_last_0 : decode cX11_last 0 = .ok (.aload_n 0, 1) := by decide +kernel
theorem dX11_last_1 : decode cX11_last 1 = .ok (.getfield 19, 3) := by decide +kernel
theorem dX11_last_4 : decode cX11_last 4 = .ok (.getfield 151, 3) := by decide +kernel
theorem dX11_last_7 : decode cX11_last 7 = .ok (.ifCond .ne 7, 3) := by decide +kernel
theorem dX11_last_10 : decode cX11_last 10 = .ok (.iconst (-1), 1) := by decide +kernel
theorem dX11_last_11 : decode cX11_last 11 = .ok (.goto 14, 3) := by decide +kernel
theorem dX11_last_14 : decode cX11_last 14 = .ok (.aload_n 0, 1) := by decide +kernel
theorem dX11_last_15 : decode cX11_last 15 = .ok (.aload_n 0, 1) := by decide +kernel
theorem dX11_last_16 : decode cX11_last 16 = .ok (.getfield 19, 3) := by decide +kernel
theorem dX11_last_19 : decode cX11_last 19 = .ok (.invokevirtual 403, 3) := by decide +kernel
theorem dX11_last_22 : decode cX11_last 22 = .ok (.invokevirtual 400, 3) := by decide +kernel
theorem dX11_last_25 : decode cX11_last 25 = .ok (.ireturn, 1) := by decide +kernel
theorem dX11_farthest_0 : decode cX11_farthest 0 = .ok (.iconst (-1), 1) := by decide +kernel
theorem dX11_farthest_1 : decode cX11_farthest 1 = .ok (.istore_n 2, 1) := by decide +kernel
theorem dX11_farthest_2 : decode cX11_farthest 2 = .ok (.iconst 0, 1) := by decide +kernel
theorem dX11_farthest_3 : decode cX11_farthest 3 = .ok (.istore_n 3, 1) := by decide +kernel
theorem dX11_farthest_4 : decode cX11_farthest 4 = .ok (.iload_n 3, 1) := by decide +kernel
theorem dX11_farthest_5 : decode cX11_farthest 5 = .ok (.aload_n 0, 1) := by decide +kernel
theorem dX11_farthest_6 : decode cX11_farthest 6 = .ok (.getfield 19, 3) := by decide +kernel
theorem dX11_farthest_9 : decode cX11_farthest 9 = .ok (.getfield 151, 3) := by decide +kernel
theorem dX11_farthest_12 : decode cX11_farthest 12 = .ok (.if_icmp .ge 45, 3) := by decide +kernel
theorem dX11_farthest_15 : decode cX11_farthest 15 = .ok (.iload_n 1, 1) := by decide +kernel
theorem dX11_farthest_16 : decode cX11_farthest 16 = .ok (.iload_n 3, 1) := by decide +kernel
theorem dX11_farthest_17 : decode cX11_farthest 17 = .ok (.ishr, 1) := by decide +kernel
theorem dX11_farthest_18 : decode cX11_farthest 18 = .ok (.iconst 1, 1) := by decide +kernel
theorem dX11_farthest_19 : decode cX11_farthest 19 = .ok (.iand, 1) := by decide +kernel
theorem dX11_farthest_20 : decode cX11_farthest 20 = .ok (.ifCond .eq 31, 3) := by decide +kernel
theorem dX11_farthest_23 : decode cX11_farthest 23 = .ok (.iload_n 2, 1) := by decide +kernel
theorem dX11_farthest_24 : decode cX11_farthest 24 = .ok (.iconst (-1), 1) := by decide +kernel
theorem dX11_farthest_25 : decode cX11_farthest 25 = .ok (.if_icmp .eq 24, 3) := by decide +kernel
theorem dX11_farthest_28 : decode cX11_farthest 28 = .ok (.aload_n 0, 1) := by decide +kernel
theorem dX11_farthest_29 : decode cX11_farthest 29 = .ok (.getfield 56, 3) := by decide +kernel
theorem dX11_farthest_32 : decode cX11_farthest 32 = .ok (.getfield 168, 3) := by decide +kernel
theorem dX11_farthest_35 : decode cX11_farthest 35 = .ok (.iload_n 3, 1) := by decide +kernel
theorem dX11_farthest_36 : decode cX11_farthest 36 = .ok (.iaload, 1) := by decide +kernel
theorem dX11_farthest_37 : decode cX11_farthest 37 = .ok (.aload_n 0, 1) := by decide +kernel
theorem dX11_farthest_38 : decode cX11_farthest 38 = .ok (.getfield 56, 3) := by decide +kernel
theorem dX11_farthest_41 : decode cX11_farthest 41 = .ok (.getfield 168, 3) := by decide +kernel
theorem dX11_farthest_44 : decode cX11_farthest 44 = .ok (.iload_n 2, 1) := by decide +kernel
theorem dX11_farthest_45 : decode cX11_farthest 45 = .ok (.iaload, 1) := by decide +kernel
theorem dX11_farthest_46 : decode cX11_farthest 46 = .ok (.if_icmp .le 5, 3) := by decide +kernel
theorem dX11_farthest_49 : decode cX11_farthest 49 = .ok (.iload_n 3, 1) := by decide +kernel
theorem dX11_farthest_50 : decode cX11_farthest 50 = .ok (.istore_n 2, 1) := by decide +kernel
theorem dX11_farthest_51 : decode cX11_farthest 51 = .ok (.iinc 3 1, 3) := by decide +kernel
theorem dX11_farthest_54 : decode cX11_farthest 54 = .ok (.goto (-50), 3) := by decide +kernel
theorem dX11_farthest_57 : decode cX11_farthest 57 = .ok (.iload_n 2, 1) := by decide +kernel
theorem dX11_farthest_58 : decode cX11_farthest 58 = .ok (.ireturn, 1) := by decide +kernel
theorem dX11_behind_0 : decode cX11_behind 0 = .ok (.aload_n 0, 1) := by decide +kernel
theorem dX11_behind_1 : decode cX11_behind 1 = .ok (.iload_n 1, 1) := by decide +kernel
theorem dX11_behind_2 : decode cX11_behind 2 = .ok (.invokevirtual 344, 3) := by decide +kernel
theorem dX11_behind_5 : decode cX11_behind 5 = .ok (.ifCond .eq 25, 3) := by decide +kernel
theorem dX11_behind_8 : decode cX11_behind 8 = .ok (.aload_n 0, 1) := by decide +kernel
theorem dX11_behind_9 : decode cX11_behind 9 = .ok (.getfield 19, 3) := by decide +kernel
theorem dX11_behind_12 : decode cX11_behind 12 = .ok (.getfield 397, 3) := by decide +kernel
theorem dX11_behind_15 : decode cX11_behind 15 = .ok (.iload_n 1, 1) := by decide +kernel
theorem dX11_behind_16 : decode cX11_behind 16 = .ok (.iaload, 1) := by decide +kernel
theorem dX11_behind_17 : decode cX11_behind 17 = .ok (.aload_n 0, 1) := by decide +kernel
theorem dX11_behind_18 : decode cX11_behind 18 = .ok (.getfield 56, 3) := by decide +kernel
theorem dX11_behind_21 : decode cX11_behind 21 = .ok (.getfield 224, 3) := by decide +kernel
theorem dX11_behind_24 : decode cX11_behind 24 = .ok (.iconst (-1), 1) := by decide +kernel
theorem dX11_behind_25 : decode cX11_behind 25 = .ok (.ixor, 1) := by decide +kernel
theorem dX11_behind_26 : decode cX11_behind 26 = .ok (.iand, 1) := by decide +kernel
theorem dX11_behind_27 : decode cX11_behind 27 = .ok (.goto 4, 3) := by decide +kernel
theorem dX11_behind_30 : decode cX11_behind 30 = .ok (.iconst (-1), 1) := by decide +kernel
theorem dX11_behind_31 : decode cX11_behind 31 = .ok (.ireturn, 1) := by decide +kernel
theorem dX11_next_0 : decode cX11_next 0 = .ok (.aload_n 0, 1) := by decide +kernel
theorem dX11_next_1 : decode cX11_next 1 = .ok (.getfield 19, 3) := by decide +kernel
theorem dX11_next_4 : decode cX11_next 4 = .ok (.iload_n 1, 1) := by decide +kernel
theorem dX11_next_5 : decode cX11_next 5 = .ok (.invokevirtual 154, 3) := by decide +kernel
theorem dX11_next_8 : decode cX11_next 8 = .ok (.ifCond .ne 5, 3) := by decide +kernel
theorem dX11_next_11 : decode cX11_next 11 = .ok (.iconst (-1), 1) := by decide +kernel
theorem dX11_next_12 : decode cX11_next 12 = .ok (.ireturn, 1) := by decide +kernel
theorem dX11_next_13 : decode cX11_next 13 = .ok (.iconst (-1), 1) := by decide +kernel
theorem dX11_next_14 : decode cX11_next 14 = .ok (.istore_n 2, 1) := by decide +kernel
theorem dX11_next_15 : decode cX11_next 15 = .ok (.iconst 0, 1) := by decide +kernel
theorem dX11_next_16 : decode cX11_next 16 = .ok (.istore_n 3, 1) := by decide +kernel
theorem dX11_next_17 : decode cX11_next 17 = .ok (.iload_n 3, 1) := by decide +kernel
theorem dX11_next_18 : decode cX11_next 18 = .ok (.aload_n 0, 1) := by decide +kernel
theorem dX11_next_19 : decode cX11_next 19 = .ok (.getfield 19, 3) := by decide +kernel
theorem dX11_next_22 : decode cX11_next 22 = .ok (.getfield 194, 3) := by decide +kernel
theorem dX11_next_25 : decode cX11_next 25 = .ok (.if_icmp .ge 58, 3) := by decide +kernel
theorem dX11_next_28 : decode cX11_next 28 = .ok (.aload_n 0, 1) := by decide +kernel
theorem dX11_next_29 : decode cX11_next 29 = .ok (.getfield 19, 3) := by decide +kernel
theorem dX11_next_32 : decode cX11_next 32 = .ok (.getfield 197, 3) := by decide +kernel
theorem dX11_next_35 : decode cX11_next 35 = .ok (.iload_n 3, 1) := by decide +kernel
theorem dX11_next_36 : decode cX11_next 36 = .ok (.iaload, 1) := by decide +kernel
theorem dX11_next_37 : decode cX11_next 37 = .ok (.aload_n 0, 1) := by decide +kernel
theorem dX11_next_38 : decode cX11_next 38 = .ok (.getfield 56, 3) := by decide +kernel
theorem dX11_next_41 : decode cX11_next 41 = .ok (.getfield 168, 3) := by decide +kernel
theorem dX11_next_44 : decode cX11_next 44 = .ok (.iload_n 1, 1) := by decide +kernel
theorem dX11_next_45 : decode cX11_next 45 = .ok (.iaload, 1) := by decide +kernel
theorem dX11_next_46 : decode cX11_next 46 = .ok (.if_icmp .ge 31, 3) := by decide +kernel
theorem dX11_next_49 : decode cX11_next 49 = .ok (.iload_n 2, 1) := by decide +kernel
theorem dX11_next_50 : decode cX11_next 50 = .ok (.iconst (-1), 1) := by decide +kernel
theorem dX11_next_51 : decode cX11_next 51 = .ok (.if_icmp .eq 24, 3) := by decide +kernel
theorem dX11_next_54 : decode cX11_next 54 = .ok (.aload_n 0, 1) := by decide +kernel
theorem dX11_next_55 : decode cX11_next 55 = .ok (.getfield 19, 3) := by decide +kernel
theorem dX11_next_58 : decode cX11_next 58 = .ok (.getfield 197, 3) := by decide +kernel
theorem dX11_next_61 : decode cX11_next 61 = .ok (.iload_n 3, 1) := by decide +kernel
theorem dX11_next_62 : decode cX11_next 62 = .ok (.iaload, 1) := by decide +kernel
theorem dX11_next_63 : decode cX11_next 63 = .ok (.aload_n 0, 1) := by decide +kernel
theorem dX11_next_64 : decode cX11_next 64 = .ok (.getfield 19, 3) := by decide +kernel
theorem dX11_next_67 : decode cX11_next 67 = .ok (.getfield 197, 3) := by decide +kernel
theorem dX11_next_70 : decode cX11_next 70 = .ok (.iload_n 2, 1) := by decide +kernel
theorem dX11_next_71 : decode cX11_next 71 = .ok (.iaload, 1) := by decide +kernel
theorem dX11_next_72 : decode cX11_next 72 = .ok (.if_icmp .le 5, 3) := by decide +kernel
theorem dX11_next_75 : decode cX11_next 75 = .ok (.iload_n 3, 1) := by decide +kernel
theorem dX11_next_76 : decode cX11_next 76 = .ok (.istore_n 2, 1) := by decide +kernel
theorem dX11_next_77 : decode cX11_next 77 = .ok (.iinc 3 1, 3) := by decide +kernel
theorem dX11_next_80 : decode cX11_next 80 = .ok (.goto (-63), 3) := by decide +kernel
theorem dX11_next_83 : decode cX11_next 83 = .ok (.iload_n 2, 1) := by decide +kernel
theorem dX11_next_84 : decode cX11_next 84 = .ok (.ireturn, 1) := by decide +kernel
theorem dX11_ahead_0 : decode cX11_ahead 0 = .ok (.aload_n 0, 1) := by decide +kernel
theorem dX11_ahead_1 : decode cX11_ahead 1 = .ok (.getfield 19, 3) := by decide +kernel
theorem dX11_ahead_4 : decode cX11_ahead 4 = .ok (.iload_n 1, 1) := by decide +kernel
theorem dX11_ahead_5 : decode cX11_ahead 5 = .ok (.invokevirtual 154, 3) := by decide +kernel
theorem dX11_ahead_8 : decode cX11_ahead 8 = .ok (.ifCond .ne 5, 3) := by decide +kernel
theorem dX11_ahead_11 : decode cX11_ahead 11 = .ok (.iconst (-1), 1) := by decide +kernel
theorem dX11_ahead_12 : decode cX11_ahead 12 = .ok (.ireturn, 1) := by decide +kernel
theorem dX11_ahead_13 : decode cX11_ahead 13 = .ok (.iconst 0, 1) := by decide +kernel
theorem dX11_ahead_14 : decode cX11_ahead 14 = .ok (.istore_n 2, 1) := by decide +kernel
theorem dX11_ahead_15 : decode cX11_ahead 15 = .ok (.iconst 0, 1) := by decide +kernel
theorem dX11_ahead_16 : decode cX11_ahead 16 = .ok (.istore_n 3, 1) := by decide +kernel
theorem dX11_ahead_17 : decode cX11_ahead 17 = .ok (.iload_n 3, 1) := by decide +kernel
theorem dX11_ahead_18 : decode cX11_ahead 18 = .ok (.aload_n 0, 1) := by decide +kernel
theorem dX11_ahead_19 : decode cX11_ahead 19 = .ok (.getfield 19, 3) := by decide +kernel
theorem dX11_ahead_22 : decode cX11_ahead 22 = .ok (.getfield 194, 3) := by decide +kernel
theorem dX11_ahead_25 : decode cX11_ahead 25 = .ok (.if_icmp .ge 36, 3) := by decide +kernel
theorem dX11_ahead_28 : decode cX11_ahead 28 = .ok (.aload_n 0, 1) := by decide +kernel
theorem dX11_ahead_29 : decode cX11_ahead 29 = .ok (.getfield 19, 3) := by decide +kernel
theorem dX11_ahead_32 : decode cX11_ahead 32 = .ok (.getfield 197, 3) := by decide +kernel
theorem dX11_ahead_35 : decode cX11_ahead 35 = .ok (.iload_n 3, 1) := by decide +kernel
theorem dX11_ahead_36 : decode cX11_ahead 36 = .ok (.iaload, 1) := by decide +kernel
theorem dX11_ahead_37 : decode cX11_ahead 37 = .ok (.aload_n 0, 1) := by decide +kernel
theorem dX11_ahead_38 : decode cX11_ahead 38 = .ok (.getfield 56, 3) := by decide +kernel
theorem dX11_ahead_41 : decode cX11_ahead 41 = .ok (.getfield 168, 3) := by decide +kernel
theorem dX11_ahead_44 : decode cX11_ahead 44 = .ok (.iload_n 1, 1) := by decide +kernel
theorem dX11_ahead_45 : decode cX11_ahead 45 = .ok (.iaload, 1) := by decide +kernel
theorem dX11_ahead_46 : decode cX11_ahead 46 = .ok (.if_icmp .ge 9, 3) := by decide +kernel
theorem dX11_ahead_49 : decode cX11_ahead 49 = .ok (.iload_n 2, 1) := by decide +kernel
theorem dX11_ahead_50 : decode cX11_ahead 50 = .ok (.iconst 1, 1) := by decide +kernel
theorem dX11_ahead_51 : decode cX11_ahead 51 = .ok (.iload_n 3, 1) := by decide +kernel
theorem dX11_ahead_52 : decode cX11_ahead 52 = .ok (.ishl, 1) := by decide +kernel
theorem dX11_ahead_53 : decode cX11_ahead 53 = .ok (.ior, 1) := by decide +kernel
theorem dX11_ahead_54 : decode cX11_ahead 54 = .ok (.istore_n 2, 1) := by decide +kernel
theorem dX11_ahead_55 : decode cX11_ahead 55 = .ok (.iinc 3 1, 3) := by decide +kernel
theorem dX11_ahead_58 : decode cX11_ahead 58 = .ok (.goto (-41), 3) := by decide +kernel
theorem dX11_ahead_61 : decode cX11_ahead 61 = .ok (.iload_n 2, 1) := by decide +kernel
theorem dX11_ahead_62 : decode cX11_ahead 62 = .ok (.ireturn, 1) := by decide +kernel
theorem dX11_even_0 : decode cX11_even 0 = .ok (.aload_n 0, 1) := by decide +kernel
theorem dX11_even_1 : decode cX11_even 1 = .ok (.getfield 19, 3) := by decide +kernel
theorem dX11_even_4 : decode cX11_even 4 = .ok (.getfield 151, 3) := by decide +kernel
theorem dX11_even_7 : decode cX11_even 7 = .ok (.ifCond .ne 5, 3) := by decide +kernel
theorem dX11_even_10 : decode cX11_even 10 = .ok (.iconst (-1), 1) := by decide +kernel
theorem dX11_even_11 : decode cX11_even 11 = .ok (.ireturn, 1) := by decide +kernel
theorem dX11_even_12 : decode cX11_even 12 = .ok (.iconst 0, 1) := by decide +kernel
theorem dX11_even_13 : decode cX11_even 13 = .ok (.istore_n 1, 1) := by decide +kernel
theorem dX11_even_14 : decode cX11_even 14 = .ok (.iconst 0, 1) := by decide +kernel
theorem dX11_even_15 : decode cX11_even 15 = .ok (.istore_n 2, 1) := by decide +kernel
theorem dX11_even_16 : decode cX11_even 16 = .ok (.iload_n 2, 1) := by decide +kernel
theorem dX11_even_17 : decode cX11_even 17 = .ok (.aload_n 0, 1) := by decide +kernel
theorem dX11_even_18 : decode cX11_even 18 = .ok (.getfield 19, 3) := by decide +kernel
theorem dX11_even_21 : decode cX11_even 21 = .ok (.getfield 151, 3) := by decide +kernel
theorem dX11_even_24 : decode cX11_even 24 = .ok (.if_icmp .ge 46, 3) := by decide +kernel
theorem dX11_even_27 : decode cX11_even 27 = .ok (.iload_n 1, 1) := by decide +kernel
theorem dX11_even_28 : decode cX11_even 28 = .ok (.aload_n 0, 1) := by decide +kernel
theorem dX11_even_29 : decode cX11_even 29 = .ok (.getfield 19, 3) := by decide +kernel
theorem dX11_even_32 : decode cX11_even 32 = .ok (.getfield 165, 3) := by decide +kernel
theorem dX11_even_35 : decode cX11_even 35 = .ok (.iload_n 2, 1) := by decide +kernel
theorem dX11_even_36 : decode cX11_even 36 = .ok (.iaload, 1) := by decide +kernel
theorem dX11_even_37 : decode cX11_even 37 = .ok (.ifCond .ne 15, 3) := by decide +kernel
theorem dX11_even_40 : decode cX11_even 40 = .ok (.aload_n 0, 1) := by decide +kernel
theorem dX11_even_41 : decode cX11_even 41 = .ok (.getfield 56, 3) := by decide +kernel
theorem dX11_even_44 : decode cX11_even 44 = .ok (.getfield 168, 3) := by decide +kernel
theorem dX11_even_47 : decode cX11_even 47 = .ok (.iload_n 2, 1) := by decide +kernel
theorem dX11_even_48 : decode cX11_even 48 = .ok (.iaload, 1) := by decide +kernel
theorem dX11_even_49 : decode cX11_even 49 = .ok (.goto 13, 3) := by decide +kernel
theorem dX11_even_52 : decode cX11_even 52 = .ok (.aload_n 0, 1) := by decide +kernel
theorem dX11_even_53 : decode cX11_even 53 = .ok (.getfield 56, 3) := by decide +kernel
theorem dX11_even_56 : decode cX11_even 56 = .ok (.getfield 168, 3) := by decide +kernel
theorem dX11_even_59 : decode cX11_even 59 = .ok (.iload_n 2, 1) := by decide +kernel
theorem dX11_even_60 : decode cX11_even 60 = .ok (.iaload, 1) := by decide +kernel
theorem dX11_even_61 : decode cX11_even 61 = .ok (.ineg, 1) := by decide +kernel
theorem dX11_even_62 : decode cX11_even 62 = .ok (.iadd, 1) := by decide +kernel
theorem dX11_even_63 : decode cX11_even 63 = .ok (.istore_n 1, 1) := by decide +kernel
theorem dX11_even_64 : decode cX11_even 64 = .ok (.iinc 2 1, 3) := by decide +kernel
theorem dX11_even_67 : decode cX11_even 67 = .ok (.goto (-51), 3) := by decide +kernel
theorem dX11_even_70 : decode cX11_even 70 = .ok (.iload_n 1, 1) := by decide +kernel
theorem dX11_even_71 : decode cX11_even 71 = .ok (.ifCond .ne 7, 3) := by decide +kernel
theorem dX11_even_74 : decode cX11_even 74 = .ok (.iconst 1, 1) := by decide +kernel
theorem dX11_even_75 : decode cX11_even 75 = .ok (.goto 4, 3) := by decide +kernel
theorem dX11_even_78 : decode cX11_even 78 = .ok (.iconst 0, 1) := by decide +kernel
theorem dX11_even_79 : decode cX11_even 79 = .ok (.ireturn, 1) := by decide +kernel
theorem dX11_meeting_0 : decode cX11_meeting 0 = .ok (.aload_n 0, 1) := by decide +kernel
theorem dX11_meeting_1 : decode cX11_meeting 1 = .ok (.getfield 19, 3) := by decide +kernel
theorem dX11_meeting_4 : decode cX11_meeting 4 = .ok (.iload_n 1, 1) := by decide +kernel
theorem dX11_meeting_5 : decode cX11_meeting 5 = .ok (.invokevirtual 154, 3) := by decide +kernel
theorem dX11_meeting_8 : decode cX11_meeting 8 = .ok (.ifCond .eq 14, 3) := by decide +kernel
theorem dX11_meeting_11 : decode cX11_meeting 11 = .ok (.aload_n 0, 1) := by decide +kernel
theorem dX11_meeting_12 : decode cX11_meeting 12 = .ok (.getfield 19, 3) := by decide +kernel
theorem dX11_meeting_15 : decode cX11_meeting 15 = .ok (.iload_n 2, 1) := by decide +kernel
theorem dX11_meeting_16 : decode cX11_meeting 16 = .ok (.invokevirtual 154, 3) := by decide +kernel
theorem dX11_meeting_19 : decode cX11_meeting 19 = .ok (.ifCond .ne 5, 3) := by decide +kernel
theorem dX11_meeting_22 : decode cX11_meeting 22 = .ok (.iconst (-1), 1) := by decide +kernel
theorem dX11_meeting_23 : decode cX11_meeting 23 = .ok (.ireturn, 1) := by decide +kernel
theorem dX11_meeting_24 : decode cX11_meeting 24 = .ok (.aload_n 0, 1) := by decide +kernel
theorem dX11_meeting_25 : decode cX11_meeting 25 = .ok (.getfield 56, 3) := by decide +kernel
theorem dX11_meeting_28 : decode cX11_meeting 28 = .ok (.getfield 168, 3) := by decide +kernel
theorem dX11_meeting_31 : decode cX11_meeting 31 = .ok (.iload_n 1, 1) := by decide +kernel
theorem dX11_meeting_32 : decode cX11_meeting 32 = .ok (.iaload, 1) := by decide +kernel
theorem dX11_meeting_33 : decode cX11_meeting 33 = .ok (.aload_n 0, 1) := by decide +kernel
theorem dX11_meeting_34 : decode cX11_meeting 34 = .ok (.getfield 56, 3) := by decide +kernel
theorem dX11_meeting_37 : decode cX11_meeting 37 = .ok (.getfield 168, 3) := by decide +kernel
theorem dX11_meeting_40 : decode cX11_meeting 40 = .ok (.iload_n 2, 1) := by decide +kernel
theorem dX11_meeting_41 : decode cX11_meeting 41 = .ok (.iaload, 1) := by decide +kernel
theorem dX11_meeting_42 : decode cX11_meeting 42 = .ok (.isub, 1) := by decide +kernel
theorem dX11_meeting_43 : decode cX11_meeting 43 = .ok (.invokestatic 406, 3) := by decide +kernel
theorem dX11_meeting_46 : decode cX11_meeting 46 = .ok (.ireturn, 1) := by decide +kernel
theorem dX11_weary_0 : decode cX11_weary 0 = .ok (.iconst (-1), 1) := by decide +kernel
theorem dX11_weary_1 : decode cX11_weary 1 = .ok (.istore_n 1, 1) := by decide +kernel
theorem dX11_weary_2 : decode cX11_weary 2 = .ok (.iconst 0, 1) := by decide +kernel
theorem dX11_weary_3 : decode cX11_weary 3 = .ok (.istore_n 2, 1) := by decide +kernel
theorem dX11_weary_4 : decode cX11_weary 4 = .ok (.iload_n 2, 1) := by decide +kernel
theorem dX11_weary_5 : decode cX11_weary 5 = .ok (.aload_n 0, 1) := by decide +kernel
theorem dX11_weary_6 : decode cX11_weary 6 = .ok (.getfield 19, 3) := by decide +kernel
theorem dX11_weary_9 : decode cX11_weary 9 = .ok (.getfield 151, 3) := by decide +kernel
theorem dX11_weary_12 : decode cX11_weary 12 = .ok (.if_icmp .ge 48, 3) := by decide +kernel
theorem dX11_weary_15 : decode cX11_weary 15 = .ok (.aload_n 0, 1) := by decide +kernel
theorem dX11_weary_16 : decode cX11_weary 16 = .ok (.getfield 56, 3) := by decide +kernel
theorem dX11_weary_19 : decode cX11_weary 19 = .ok (.iload_n 2, 1) := by decide +kernel
theorem dX11_weary_20 : decode cX11_weary 20 = .ok (.invokevirtual 189, 3) := by decide +kernel
theorem dX11_weary_23 : decode cX11_weary 23 = .ok (.ifCond .ne 31, 3) := by decide +kernel
theorem dX11_weary_26 : decode cX11_weary 26 = .ok (.iload_n 1, 1) := by decide +kernel
theorem dX11_weary_27 : decode cX11_weary 27 = .ok (.iconst (-1), 1) := by decide +kernel
theorem dX11_weary_28 : decode cX11_weary 28 = .ok (.if_icmp .eq 24, 3) := by decide +kernel
theorem dX11_weary_31 : decode cX11_weary 31 = .ok (.aload_n 0, 1) := by decide +kernel
theorem dX11_weary_32 : decode cX11_weary 32 = .ok (.getfield 19, 3) := by decide +kernel
theorem dX11_weary_35 : decode cX11_weary 35 = .ok (.getfield 177, 3) := by decide +kernel
theorem dX11_weary_38 : decode cX11_weary 38 = .ok (.iload_n 2, 1) := by decide +kernel
theorem dX11_weary_39 : decode cX11_weary 39 = .ok (.iaload, 1) := by decide +kernel
theorem dX11_weary_40 : decode cX11_weary 40 = .ok (.aload_n 0, 1) := by decide +kernel
theorem dX11_weary_41 : decode cX11_weary 41 = .ok (.getfield 19, 3) := by decide +kernel
theorem dX11_weary_44 : decode cX11_weary 44 = .ok (.getfield 177, 3) := by decide +kernel
theorem dX11_weary_47 : decode cX11_weary 47 = .ok (.iload_n 1, 1) := by decide +kernel
theorem dX11_weary_48 : decode cX11_weary 48 = .ok (.iaload, 1) := by decide +kernel
theorem dX11_weary_49 : decode cX11_weary 49 = .ok (.if_icmp .le 5, 3) := by decide +kernel
theorem dX11_weary_52 : decode cX11_weary 52 = .ok (.iload_n 2, 1) := by decide +kernel
theorem dX11_weary_53 : decode cX11_weary 53 = .ok (.istore_n 1, 1) := by decide +kernel
theorem dX11_weary_54 : decode cX11_weary 54 = .ok (.iinc 2 1, 3) := by decide +kernel
theorem dX11_weary_57 : decode cX11_weary 57 = .ok (.goto (-53), 3) := by decide +kernel
theorem dX11_weary_60 : decode cX11_weary 60 = .ok (.iload_n 1, 1) := by decide +kernel
theorem dX11_weary_61 : decode cX11_weary 61 = .ok (.ireturn, 1) := by decide +kernel
theorem dX11_isSideOfWar_0 : decode cX11_isSideOfWar 0 = .ok (.aload_n 0, 1) := by decide +kernel
theorem dX11_isSideOfWar_1 : decode cX11_isSideOfWar 1 = .ok (.getfield 19, 3) := by decide +kernel
theorem dX11_isSideOfWar_4 : decode cX11_isSideOfWar 4 = .ok (.getfield 151, 3) := by decide +kernel
theorem dX11_isSideOfWar_7 : decode cX11_isSideOfWar 7 = .ok (.ifCond .le 16, 3) := by decide +kernel
theorem dX11_isSideOfWar_10 : decode cX11_isSideOfWar 10 = .ok (.iload_n 1, 1) := by decide +kernel
theorem dX11_isSideOfWar_11 : decode cX11_isSideOfWar 11 = .ok (.ifCond .eq 8, 3) := by decide +kernel
theorem dX11_isSideOfWar_14 : decode cX11_isSideOfWar 14 = .ok (.iload_n 1, 1) := by decide +kernel
theorem dX11_isSideOfWar_15 : decode cX11_isSideOfWar 15 = .ok (.iconst 1, 1) := by decide +kernel
theorem dX11_isSideOfWar_16 : decode cX11_isSideOfWar 16 = .ok (.if_icmp .ne 7, 3) := by decide +kernel
theorem dX11_isSideOfWar_19 : decode cX11_isSideOfWar 19 = .ok (.iconst 1, 1) := by decide +kernel
theorem dX11_isSideOfWar_20 : decode cX11_isSideOfWar 20 = .ok (.goto 4, 3) := by decide +kernel
theorem dX11_isSideOfWar_23 : decode cX11_isSideOfWar 23 = .ok (.iconst 0, 1) := by decide +kernel
theorem dX11_isSideOfWar_24 : decode cX11_isSideOfWar 24 = .ok (.ireturn, 1) := by decide +kernel
theorem dX11_gets_0 : decode cX11_gets 0 = .ok (.aload_n 0, 1) := by decide +kernel
theorem dX11_gets_1 : decode cX11_gets 1 = .ok (.getfield 19, 3) := by decide +kernel
theorem dX11_gets_4 : decode cX11_gets 4 = .ok (.iload_n 1, 1) := by decide +kernel
theorem dX11_gets_5 : decode cX11_gets 5 = .ok (.invokevirtual 154, 3) := by decide +kernel
theorem dX11_gets_8 : decode cX11_gets 8 = .ok (.ifCond .eq 26, 3) := by decide +kernel
theorem dX11_gets_11 : decode cX11_gets 11 = .ok (.aload_n 0, 1) := by decide +kernel
theorem dX11_gets_12 : decode cX11_gets 12 = .ok (.getfield 19, 3) := by decide +kernel
theorem dX11_gets_15 : decode cX11_gets 15 = .ok (.iload_n 2, 1) := by decide +kernel
theorem dX11_gets_16 : decode cX11_gets 16 = .ok (.invokevirtual 409, 3) := by decide +kernel
theorem dX11_gets_19 : decode cX11_gets 19 = .ok (.ifCond .eq 15, 3) := by decide +kernel
theorem dX11_gets_22 : decode cX11_gets 22 = .ok (.aload_n 0, 1) := by decide +kernel
theorem dX11_gets_23 : decode cX11_gets 23 = .ok (.getfield 19, 3) := by decide +kernel
theorem dX11_gets_26 : decode cX11_gets 26 = .ok (.iload_n 1, 1) := by decide +kernel
theorem dX11_gets_27 : decode cX11_gets 27 = .ok (.iload_n 2, 1) := by decide +kernel
theorem dX11_gets_28 : decode cX11_gets 28 = .ok (.invokevirtual 412, 3) := by decide +kernel
theorem dX11_gets_31 : decode cX11_gets 31 = .ok (.goto 5, 3) := by decide +kernel
theorem dX11_gets_34 : decode cX11_gets 34 = .ok (.ldc 232, 2) := by decide +kernel
theorem dX11_gets_36 : decode cX11_gets 36 = .ok (.ireturn, 1) := by decide +kernel
theorem dX11_resting_0 : decode cX11_resting 0 = .ok (.aload_n 0, 1) := by decide +kernel
theorem dX11_resting_1 : decode cX11_resting 1 = .ok (.getfield 19, 3) := by decide +kernel
theorem dX11_resting_4 : decode cX11_resting 4 = .ok (.getfield 151, 3) := by decide +kernel
theorem dX11_resting_7 : decode cX11_resting 7 = .ok (.ifCond .eq 8, 3) := by decide +kernel
theorem dX11_resting_10 : decode cX11_resting 10 = .ok (.iload_n 1, 1) := by decide +kernel
theorem dX11_resting_11 : decode cX11_resting 11 = .ok (.iconst (-1), 1) := by decide +kernel
theorem dX11_resting_12 : decode cX11_resting 12 = .ok (.if_icmp .ge 5, 3) := by decide +kernel
theorem dX11_resting_15 : decode cX11_resting 15 = .ok (.iconst (-1), 1) := by decide +kernel
theorem dX11_resting_16 : decode cX11_resting 16 = .ok (.ireturn, 1) := by decide +kernel
theorem dX11_resting_17 : decode cX11_resting 17 = .ok (.iconst 0, 1) := by decide +kernel
theorem dX11_resting_18 : decode cX11_resting 18 = .ok (.istore_n 2, 1) := by decide +kernel
theorem dX11_resting_19 : decode cX11_resting 19 = .ok (.iconst 0, 1) := by decide +kernel
theorem dX11_resting_20 : decode cX11_resting 20 = .ok (.istore_n 3, 1) := by decide +kernel
theorem dX11_resting_21 : decode cX11_resting 21 = .ok (.iload_n 3, 1) := by decide +kernel
theorem dX11_resting_22 : decode cX11_resting 22 = .ok (.aload_n 0, 1) := by decide +kernel
theorem dX11_resting_23 : decode cX11_resting 23 = .ok (.getfield 19, 3) := by decide +kernel
theorem dX11_resting_26 : decode cX11_resting 26 = .ok (.invokevirtual 403, 3) := by decide +kernel
theorem dX11_resting_29 : decode cX11_resting 29 = .ok (.if_icmp .gt 30, 3) := by decide +kernel
theorem dX11_resting_32 : decode cX11_resting 32 = .ok (.aload_n 0, 1) := by decide +kernel
theorem dX11_resting_33 : decode cX11_resting 33 = .ok (.getfield 19, 3) := by decide +kernel
theorem dX11_resting_36 : decode cX11_resting 36 = .ok (.iload_n 3, 1) := by decide +kernel
theorem dX11_resting_37 : decode cX11_resting 37 = .ok (.invokevirtual 415, 3) := by decide +kernel
theorem dX11_resting_40 : decode cX11_resting 40 = .ok (.ifCond .eq 13, 3) := by decide +kernel
theorem dX11_resting_43 : decode cX11_resting 43 = .ok (.iload_n 2, 1) := by decide +kernel
theorem dX11_resting_44 : decode cX11_resting 44 = .ok (.iload_n 1, 1) := by decide +kernel
theorem dX11_resting_45 : decode cX11_resting 45 = .ok (.if_icmp .ne 5, 3) := by decide +kernel
theorem dX11_resting_48 : decode cX11_resting 48 = .ok (.iload_n 3, 1) := by decide +kernel
theorem dX11_resting_49 : decode cX11_resting 49 = .ok (.ireturn, 1) := by decide +kernel
theorem dX11_resting_50 : decode cX11_resting 50 = .ok (.iinc 2 1, 3) := by decide +kernel
theorem dX11_resting_53 : decode cX11_resting 53 = .ok (.iinc 3 1, 3) := by decide +kernel
theorem dX11_resting_56 : decode cX11_resting 56 = .ok (.goto (-35), 3) := by decide +kernel
theorem dX11_resting_59 : decode cX11_resting 59 = .ok (.iload_n 1, 1) := by decide +kernel
theorem dX11_resting_60 : decode cX11_resting 60 = .ok (.iconst (-1), 1) := by decide +kernel
theorem dX11_resting_61 : decode cX11_resting 61 = .ok (.if_icmp .ne 7, 3) := by decide +kernel
theorem dX11_resting_64 : decode cX11_resting 64 = .ok (.iload_n 2, 1) := by decide +kernel
theorem dX11_resting_65 : decode cX11_resting 65 = .ok (.goto 4, 3) := by decide +kernel
theorem dX11_resting_68 : decode cX11_resting 68 = .ok (.iconst (-1), 1) := by decide +kernel
theorem dX11_resting_69 : decode cX11_resting 69 = .ok (.ireturn, 1) := by decide +kernel
theorem dX11_letter_0 : decode cX11_letter 0 = .ok (.aload_n 0, 1) := by decide +kernel
theorem dX11_letter_1 : decode cX11_letter 1 = .ok (.getfield 93, 3) := by decide +kernel
theorem dX11_letter_4 : decode cX11_letter 4 = .ok (.iload_n 1, 1) := by decide +kernel
theorem dX11_letter_5 : decode cX11_letter 5 = .ok (.iload_n 2, 1) := by decide +kernel
theorem dX11_letter_6 : decode cX11_letter 6 = .ok (.invokevirtual 418, 3) := by decide +kernel
theorem dX11_letter_9 : decode cX11_letter 9 = .ok (.ifCond .eq 13, 3) := by decide +kernel
theorem dX11_letter_12 : decode cX11_letter 12 = .ok (.aload_n 0, 1) := by decide +kernel
theorem dX11_letter_13 : decode cX11_letter 13 = .ok (.getfield 93, 3) := by decide +kernel
theorem dX11_letter_16 : decode cX11_letter 16 = .ok (.getfield 150, 3) := by decide +kernel
theorem dX11_letter_19 : decode cX11_letter 19 = .ok (.goto 4, 3) := by decide +kernel
theorem dX11_letter_22 : decode cX11_letter 22 = .ok (.iconst (-1), 1) := by decide +kernel
theorem dX11_letter_23 : decode cX11_letter 23 = .ok (.ireturn, 1) := by decide +kernel
theorem dX11_fit_0 : decode cX11_fit 0 = .ok (.iload_n 1, 1) := by decide +kernel
theorem dX11_fit_1 : decode cX11_fit 1 = .ok (.invokestatic 420, 3) := by decide +kernel
theorem dX11_fit_4 : decode cX11_fit 4 = .ok (.ifCond .eq 8, 3) := by decide +kernel
theorem dX11_fit_7 : decode cX11_fit 7 = .ok (.iload_n 2, 1) := by decide +kernel
theorem dX11_fit_8 : decode cX11_fit 8 = .ok (.iconst (-1), 1) := by decide +kernel
theorem dX11_fit_9 : decode cX11_fit 9 = .ok (.if_icmp .ge 5, 3) := by decide +kernel
theorem dX11_fit_12 : decode cX11_fit 12 = .ok (.iconst (-1), 1) := by decide +kernel
theorem dX11_fit_13 : decode cX11_fit 13 = .ok (.ireturn, 1) := by decide +kernel
theorem dX11_fit_14 : decode cX11_fit 14 = .ok (.iconst 0, 1) := by decide +kernel
theorem dX11_fit_15 : decode cX11_fit 15 = .ok (.istore_n 3, 1) := by decide +kernel
theorem dX11_fit_16 : decode cX11_fit 16 = .ok (.aload_n 0, 1) := by decide +kernel
theorem dX11_fit_17 : decode cX11_fit 17 = .ok (.getfield 93, 3) := by decide +kernel
theorem dX11_fit_20 : decode cX11_fit 20 = .ok (.invokevirtual 423, 3) := by decide +kernel
theorem dX11_fit_23 : decode cX11_fit 23 = .ok (.iconst 0, 1) := by decide +kernel
theorem dX11_fit_24 : decode cX11_fit 24 = .ok (.istore 4, 2) := by decide +kernel
theorem dX11_fit_26 : decode cX11_fit 26 = .ok (.iload 4, 2) := by decide +kernel
theorem dX11_fit_28 : decode cX11_fit 28 = .ok (.sipush 1771, 3) := by decide +kernel
theorem dX11_fit_31 : decode cX11_fit 31 = .ok (.if_icmp .ge 51, 3) := by decide +kernel
theorem dX11_fit_34 : decode cX11_fit 34 = .ok (.aload_n 0, 1) := by decide +kernel
theorem dX11_fit_35 : decode cX11_fit 35 = .ok (.getfield 93, 3) := by decide +kernel
theorem dX11_fit_38 : decode cX11_fit 38 = .ok (.iload_n 1, 1) := by decide +kernel
theorem dX11_fit_39 : decode cX11_fit 39 = .ok (.invokevirtual 426, 3) := by decide +kernel
theorem dX11_fit_42 : decode cX11_fit 42 = .ok (.ifCond .eq 20, 3) := by decide +kernel
theorem dX11_fit_45 : decode cX11_fit 45 = .ok (.iload_n 3, 1) := by decide +kernel
theorem dX11_fit_46 : decode cX11_fit 46 = .ok (.iload_n 2, 1) := by decide +kernel
theorem dX11_fit_47 : decode cX11_fit 47 = .ok (.if_icmp .ne 12, 3) := by decide +kernel
theorem dX11_fit_50 : decode cX11_fit 50 = .ok (.aload_n 0, 1) := by decide +kernel
theorem dX11_fit_51 : decode cX11_fit 51 = .ok (.getfield 93, 3) := by decide +kernel
theorem dX11_fit_54 : decode cX11_fit 54 = .ok (.iload_n 1, 1) := by decide +kernel
theorem dX11_fit_55 : decode cX11_fit 55 = .ok (.invokevirtual 429, 3) := by decide +kernel
theorem dX11_fit_58 : decode cX11_fit 58 = .ok (.ireturn, 1) := by decide +kernel
theorem dX11_fit_59 : decode cX11_fit 59 = .ok (.iinc 3 1, 3) := by decide +kernel
theorem dX11_fit_62 : decode cX11_fit 62 = .ok (.aload_n 0, 1) := by decide +kernel
theorem dX11_fit_63 : decode cX11_fit 63 = .ok (.getfield 93, 3) := by decide +kernel
theorem dX11_fit_66 : decode cX11_fit 66 = .ok (.iload_n 1, 1) := by decide +kernel
theorem dX11_fit_67 : decode cX11_fit 67 = .ok (.invokevirtual 432, 3) := by decide +kernel
theorem dX11_fit_70 : decode cX11_fit 70 = .ok (.ifCond .ne 6, 3) := by decide +kernel
theorem dX11_fit_73 : decode cX11_fit 73 = .ok (.goto 9, 3) := by decide +kernel
theorem dX11_fit_76 : decode cX11_fit 76 = .ok (.iinc 4 1, 3) := by decide +kernel
theorem dX11_fit_79 : decode cX11_fit 79 = .ok (.goto (-53), 3) := by decide +kernel
theorem dX11_fit_82 : decode cX11_fit 82 = .ok (.iload_n 2, 1) := by decide +kernel
theorem dX11_fit_83 : decode cX11_fit 83 = .ok (.iconst (-1), 1) := by decide +kernel
theorem dX11_fit_84 : decode cX11_fit 84 = .ok (.if_icmp .ne 7, 3) := by decide +kernel
theorem dX11_fit_87 : decode cX11_fit 87 = .ok (.iload_n 3, 1) := by decide +kernel
theorem dX11_fit_88 : decode cX11_fit 88 = .ok (.goto 4, 3) := by decide +kernel
theorem dX11_fit_91 : decode cX11_fit 91 = .ok (.iconst (-1), 1) := by decide +kernel
theorem dX11_fit_92 : decode cX11_fit 92 = .ok (.ireturn, 1) := by decide +kernel
theorem dX11_ask_0 : decode cX11_ask 0 = .ok (.iload_n 1, 1) := by decide +kernel
theorem dX11_ask_1 : decode cX11_ask 1 = .ok (.invokestatic 420, 3) := by decide +kernel
theorem dX11_ask_4 : decode cX11_ask 4 = .ok (.ifCond .eq 12, 3) := by decide +kernel
theorem dX11_ask_7 : decode cX11_ask 7 = .ok (.iload_n 2, 1) := by decide +kernel
theorem dX11_ask_8 : decode cX11_ask 8 = .ok (.ifCond .lt 8, 3) := by decide +kernel
theorem dX11_ask_11 : decode cX11_ask 11 = .ok (.iload_n 2, 1) := by decide +kernel
theorem dX11_ask_12 : decode cX11_ask 12 = .ok (.iconst 1, 1) := by decide +kernel
theorem dX11_ask_13 : decode cX11_ask 13 = .ok (.if_icmp .le 5, 3) := by decide +kernel
theorem dX11_ask_16 : decode cX11_ask 16 = .ok (.iconst (-1), 1) := by decide +kernel
theorem dX11_ask_17 : decode cX11_ask 17 = .ok (.ireturn, 1) := by decide +kernel
theorem dX11_ask_18 : decode cX11_ask 18 = .ok (.aload_n 0, 1) := by decide +kernel
theorem dX11_ask_19 : decode cX11_ask 19 = .ok (.getfield 93, 3) := by decide +kernel
theorem dX11_ask_22 : decode cX11_ask 22 = .ok (.iload_n 1, 1) := by decide +kernel
theorem dX11_ask_23 : decode cX11_ask 23 = .ok (.invokevirtual 435, 3) := by decide +kernel
theorem dX11_ask_26 : decode cX11_ask 26 = .ok (.ifCond .ne 5, 3) := by decide +kernel
theorem dX11_ask_29 : decode cX11_ask 29 = .ok (.iconst (-1), 1) := by decide +kernel
theorem dX11_ask_30 : decode cX11_ask 30 = .ok (.ireturn, 1) := by decide +kernel
theorem dX11_ask_31 : decode cX11_ask 31 = .ok (.aload_n 0, 1) := by decide +kernel
theorem dX11_ask_32 : decode cX11_ask 32 = .ok (.getfield 93, 3) := by decide +kernel
theorem dX11_ask_35 : decode cX11_ask 35 = .ok (.invokevirtual 438, 3) := by decide +kernel
theorem dX11_ask_38 : decode cX11_ask 38 = .ok (.istore_n 3, 1) := by decide +kernel
theorem dX11_ask_39 : decode cX11_ask 39 = .ok (.iload_n 2, 1) := by decide +kernel
theorem dX11_ask_40 : decode cX11_ask 40 = .ok (.ifCond .ne 7, 3) := by decide +kernel
theorem dX11_ask_43 : decode cX11_ask 43 = .ok (.iload_n 3, 1) := by decide +kernel
theorem dX11_ask_44 : decode cX11_ask 44 = .ok (.goto 11, 3) := by decide +kernel
theorem dX11_ask_47 : decode cX11_ask 47 = .ok (.aload_n 0, 1) := by decide +kernel
theorem dX11_ask_48 : decode cX11_ask 48 = .ok (.getfield 93, 3) := by decide +kernel
theorem dX11_ask_51 : decode cX11_ask 51 = .ok (.iload_n 3, 1) := by decide +kernel
theorem dX11_ask_52 : decode cX11_ask 52 = .ok (.invokevirtual 441, 3) := by decide +kernel
theorem dX11_ask_55 : decode cX11_ask 55 = .ok (.ireturn, 1) := by decide +kernel
theorem dX11_sure_0 : decode cX11_sure 0 = .ok (.iload_n 1, 1) := by decide +kernel
theorem dX11_sure_1 : decode cX11_sure 1 = .ok (.invokestatic 420, 3) := by decide +kernel
theorem dX11_sure_4 : decode cX11_sure 4 = .ok (.ifCond .ne 5, 3) := by decide +kernel
theorem dX11_sure_7 : decode cX11_sure 7 = .ok (.iconst (-1), 1) := by decide +kernel
theorem dX11_sure_8 : decode cX11_sure 8 = .ok (.ireturn, 1) := by decide +kernel
theorem dX11_sure_9 : decode cX11_sure 9 = .ok (.aload_n 0, 1) := by decide +kernel
theorem dX11_sure_10 : decode cX11_sure 10 = .ok (.getfield 93, 3) := by decide +kernel
theorem dX11_sure_13 : decode cX11_sure 13 = .ok (.iload_n 1, 1) := by decide +kernel
theorem dX11_sure_14 : decode cX11_sure 14 = .ok (.invokevirtual 435, 3) := by decide +kernel
theorem dX11_sure_17 : decode cX11_sure 17 = .ok (.ifCond .ne 7, 3) := by decide +kernel
theorem dX11_sure_20 : decode cX11_sure 20 = .ok (.iconst (-1), 1) := by decide +kernel
theorem dX11_sure_21 : decode cX11_sure 21 = .ok (.goto 10, 3) := by decide +kernel
theorem dX11_sure_24 : decode cX11_sure 24 = .ok (.aload_n 0, 1) := by decide +kernel
theorem dX11_sure_25 : decode cX11_sure 25 = .ok (.getfield 93, 3) := by decide +kernel
theorem dX11_sure_28 : decode cX11_sure 28 = .ok (.getfield 444, 3) := by decide +kernel
theorem dX11_sure_31 : decode cX11_sure 31 = .ok (.ireturn, 1) := by decide +kernel
theorem dX11_odds_0 : decode cX11_odds 0 = .ok (.aload_n 0, 1) := by decide +kernel
theorem dX11_odds_1 : decode cX11_odds 1 = .ok (.getfield 19, 3) := by decide +kernel
theorem dX11_odds_4 : decode cX11_odds 4 = .ok (.iload_n 1, 1) := by decide +kernel
theorem dX11_odds_5 : decode cX11_odds 5 = .ok (.invokevirtual 154, 3) := by decide +kernel
theorem dX11_odds_8 : decode cX11_odds 8 = .ok (.ifCond .eq 10, 3) := by decide +kernel
theorem dX11_odds_11 : decode cX11_odds 11 = .ok (.iload_n 2, 1) := by decide +kernel
theorem dX11_odds_12 : decode cX11_odds 12 = .ok (.invokestatic 447, 3) := by decide +kernel
theorem dX11_odds_15 : decode cX11_odds 15 = .ok (.ifCond .ne 5, 3) := by decide +kernel
theorem dX11_odds_18 : decode cX11_odds 18 = .ok (.iconst (-1), 1) := by decide +kernel
theorem dX11_odds_19 : decode cX11_odds 19 = .ok (.ireturn, 1) := by decide +kernel
theorem dX11_odds_20 : decode cX11_odds 20 = .ok (.aload_n 0, 1) := by decide +kernel
theorem dX11_odds_21 : decode cX11_odds 21 = .ok (.iload_n 1, 1) := by decide +kernel
theorem dX11_odds_22 : decode cX11_odds 22 = .ok (.iload_n 2, 1) := by decide +kernel
theorem dX11_odds_23 : decode cX11_odds 23 = .ok (.invokevirtual 450, 3) := by decide +kernel
theorem dX11_odds_26 : decode cX11_odds 26 = .ok (.ireturn, 1) := by decide +kernel
theorem dX11_hurry_0 : decode cX11_hurry 0 = .ok (.aload_n 0, 1) := by decide +kernel
theorem dX11_hurry_1 : decode cX11_hurry 1 = .ok (.iload_n 1, 1) := by decide +kernel
theorem dX11_hurry_2 : decode cX11_hurry 2 = .ok (.invokevirtual 344, 3) := by decide +kernel
theorem dX11_hurry_5 : decode cX11_hurry 5 = .ok (.ifCond .eq 10, 3) := by decide +kernel
theorem dX11_hurry_8 : decode cX11_hurry 8 = .ok (.iload_n 2, 1) := by decide +kernel
theorem dX11_hurry_9 : decode cX11_hurry 9 = .ok (.invokestatic 447, 3) := by decide +kernel
theorem dX11_hurry_12 : decode cX11_hurry 12 = .ok (.ifCond .ne 5, 3) := by decide +kernel
theorem dX11_hurry_15 : decode cX11_hurry 15 = .ok (.iconst (-1), 1) := by decide +kernel
theorem dX11_hurry_16 : decode cX11_hurry 16 = .ok (.ireturn, 1) := by decide +kernel
theorem dX11_hurry_17 : decode cX11_hurry 17 = .ok (.iconst (-1), 1) := by decide +kernel
theorem dX11_hurry_18 : decode cX11_hurry 18 = .ok (.istore_n 3, 1) := by decide +kernel
theorem dX11_hurry_19 : decode cX11_hurry 19 = .ok (.iconst 0, 1) := by decide +kernel
theorem dX11_hurry_20 : decode cX11_hurry 20 = .ok (.istore 4, 2) := by decide +kernel
theorem dX11_hurry_22 : decode cX11_hurry 22 = .ok (.iconst 0, 1) := by decide +kernel
theorem dX11_hurry_23 : decode cX11_hurry 23 = .ok (.istore 5, 2) := by decide +kernel
theorem dX11_hurry_25 : decode cX11_hurry 25 = .ok (.iload 5, 2) := by decide +kernel
theorem dX11_hurry_27 : decode cX11_hurry 27 = .ok (.aload_n 0, 1) := by decide +kernel
theorem dX11_hurry_28 : decode cX11_hurry 28 = .ok (.getfield 19, 3) := by decide +kernel
theorem dX11_hurry_31 : decode cX11_hurry 31 = .ok (.getfield 151, 3) := by decide +kernel
theorem dX11_hurry_34 : decode cX11_hurry 34 = .ok (.if_icmp .ge 63, 3) := by decide +kernel
theorem dX11_hurry_37 : decode cX11_hurry 37 = .ok (.aload_n 0, 1) := by decide +kernel
theorem dX11_hurry_38 : decode cX11_hurry 38 = .ok (.getfield 19, 3) := by decide +kernel
theorem dX11_hurry_41 : decode cX11_hurry 41 = .ok (.getfield 165, 3) := by decide +kernel
theorem dX11_hurry_44 : decode cX11_hurry 44 = .ok (.iload 5, 2) := by decide +kernel
theorem dX11_hurry_46 : decode cX11_hurry 46 = .ok (.iaload, 1) := by decide +kernel
theorem dX11_hurry_47 : decode cX11_hurry 47 = .ok (.iload_n 1, 1) := by decide +kernel
theorem dX11_hurry_48 : decode cX11_hurry 48 = .ok (.if_icmp .ne 43, 3) := by decide +kernel
theorem dX11_hurry_51 : decode cX11_hurry 51 = .ok (.aload_n 0, 1) := by decide +kernel
theorem dX11_hurry_52 : decode cX11_hurry 52 = .ok (.getfield 56, 3) := by decide +kernel
theorem dX11_hurry_55 : decode cX11_hurry 55 = .ok (.iload 5, 2) := by decide +kernel
theorem dX11_hurry_57 : decode cX11_hurry 57 = .ok (.invokevirtual 236, 3) := by decide +kernel
theorem dX11_hurry_60 : decode cX11_hurry 60 = .ok (.ifCond .eq 31, 3) := by decide +kernel
theorem dX11_hurry_63 : decode cX11_hurry 63 = .ok (.aload_n 0, 1) := by decide +kernel
theorem dX11_hurry_64 : decode cX11_hurry 64 = .ok (.iload 5, 2) := by decide +kernel
theorem dX11_hurry_66 : decode cX11_hurry 66 = .ok (.iload_n 2, 1) := by decide +kernel
theorem dX11_hurry_67 : decode cX11_hurry 67 = .ok (.invokevirtual 450, 3) := by decide +kernel
theorem dX11_hurry_70 : decode cX11_hurry 70 = .ok (.istore 6, 2) := by decide +kernel
theorem dX11_hurry_72 : decode cX11_hurry 72 = .ok (.iload_n 3, 1) := by decide +kernel
theorem dX11_hurry_73 : decode cX11_hurry 73 = .ok (.iconst (-1), 1) := by decide +kernel
theorem dX11_hurry_74 : decode cX11_hurry 74 = .ok (.if_icmp .eq 10, 3) := by decide +kernel
theorem dX11_hurry_77 : decode cX11_hurry 77 = .ok (.iload 6, 2) := by decide +kernel
theorem dX11_hurry_79 : decode cX11_hurry 79 = .ok (.iload 4, 2) := by decide +kernel
theorem dX11_hurry_81 : decode cX11_hurry 81 = .ok (.if_icmp .le 10, 3) := by decide +kernel
theorem dX11_hurry_84 : decode cX11_hurry 84 = .ok (.iload 5, 2) := by decide +kernel
theorem dX11_hurry_86 : decode cX11_hurry 86 = .ok (.istore_n 3, 1) := by decide +kernel
theorem dX11_hurry_87 : decode cX11_hurry 87 = .ok (.iload 6, 2) := by decide +kernel
theorem dX11_hurry_89 : decode cX11_hurry 89 = .ok (.istore 4, 2) := by decide +kernel
theorem dX11_hurry_91 : decode cX11_hurry 91 = .ok (.iinc 5 1, 3) := by decide +kernel
theorem dX11_hurry_94 : decode cX11_hurry 94 = .ok (.goto (-69), 3) := by decide +kernel
theorem dX11_hurry_97 : decode cX11_hurry 97 = .ok (.iload_n 3, 1) := by decide +kernel
theorem dX11_hurry_98 : decode cX11_hurry 98 = .ok (.ireturn, 1) := by decide +kernel
theorem dX11_isOddsSpan_0 : decode cX11_isOddsSpan 0 = .ok (.iload_n 0, 1) := by decide +kernel
theorem dX11_isOddsSpan_1 : decode cX11_isOddsSpan 1 = .ok (.ifCond .lt 13, 3) := by decide +kernel
theorem dX11_isOddsSpan_4 : decode cX11_isOddsSpan 4 = .ok (.iload_n 0, 1) := by decide +kernel
theorem dX11_isOddsSpan_5 : decode cX11_isOddsSpan 5 = .ok (.bipush 40, 2) := by decide +kernel
theorem dX11_isOddsSpan_7 : decode cX11_isOddsSpan 7 = .ok (.if_icmp .gt 7, 3) := by decide +kernel
theorem dX11_isOddsSpan_10 : decode cX11_isOddsSpan 10 = .ok (.iconst 1, 1) := by decide +kernel
theorem dX11_isOddsSpan_11 : decode cX11_isOddsSpan 11 = .ok (.goto 4, 3) := by decide +kernel
theorem dX11_isOddsSpan_14 : decode cX11_isOddsSpan 14 = .ok (.iconst 0, 1) := by decide +kernel
theorem dX11_isOddsSpan_15 : decode cX11_isOddsSpan 15 = .ok (.ireturn, 1) := by decide +kernel
theorem dX11_partsAtHome_0 : decode cX11_partsAtHome 0 = .ok (.iconst 0, 1) := by decide +kernel
theorem dX11_partsAtHome_1 : decode cX11_partsAtHome 1 = .ok (.istore_n 3, 1) := by decide +kernel
theorem dX11_partsAtHome_2 : decode cX11_partsAtHome 2 = .ok (.iload_n 3, 1) := by decide +kernel
theorem dX11_partsAtHome_3 : decode cX11_partsAtHome 3 = .ok (.aload_n 0, 1) := by decide +kernel
theorem dX11_partsAtHome_4 : decode cX11_partsAtHome 4 = .ok (.getfield 97, 3) := by decide +kernel
theorem dX11_partsAtHome_7 : decode cX11_partsAtHome 7 = .ok (.arraylength, 1) := by decide +kernel
theorem dX11_partsAtHome_8 : decode cX11_partsAtHome 8 = .ok (.if_icmp .ge 35, 3) := by decide +kernel
theorem dX11_partsAtHome_11 : decode cX11_partsAtHome 11 = .ok (.aload_n 0, 1) := by decide +kernel
theorem dX11_partsAtHome_12 : decode cX11_partsAtHome 12 = .ok (.getfield 97, 3) := by decide +kernel
theorem dX11_partsAtHome_15 : decode cX11_partsAtHome 15 = .ok (.iload_n 3, 1) := by decide +kernel
theorem dX11_partsAtHome_16 : decode cX11_partsAtHome 16 = .ok (.iload_n 3, 1) := by decide +kernel
theorem dX11_partsAtHome_17 : decode cX11_partsAtHome 17 = .ok (.aload_n 0, 1) := by decide +kernel
theorem dX11_partsAtHome_18 : decode cX11_partsAtHome 18 = .ok (.getfield 56, 3) := by decide +kernel
theorem dX11_partsAtHome_21 : decode cX11_partsAtHome 21 = .ok (.getfield 168, 3) := by decide +kernel
theorem dX11_partsAtHome_24 : decode cX11_partsAtHome 24 = .ok (.iload_n 1, 1) := by decide +kernel
theorem dX11_partsAtHome_25 : decode cX11_partsAtHome 25 = .ok (.iaload, 1) := by decide +kernel
theorem dX11_partsAtHome_26 : decode cX11_partsAtHome 26 = .ok (.if_icmp .ne 9, 3) := by decide +kernel
theorem dX11_partsAtHome_29 : decode cX11_partsAtHome 29 = .ok (.ldc2_w 453, 3) := by decide +kernel
theorem dX11_partsAtHome_32 : decode cX11_partsAtHome 32 = .ok (.goto 4, 3) := by decide +kernel
theorem dX11_partsAtHome_35 : decode cX11_partsAtHome 35 = .ok (.lconst 0, 1) := by decide +kernel
theorem dX11_partsAtHome_36 : decode cX11_partsAtHome 36 = .ok (.lastore, 1) := by decide +kernel
theorem dX11_partsAtHome_37 : decode cX11_partsAtHome 37 = .ok (.iinc 3 1, 3) := by decide +kernel
theorem dX11_partsAtHome_40 : decode cX11_partsAtHome 40 = .ok (.goto (-38), 3) := by decide +kernel
theorem dX11_partsAtHome_43 : decode cX11_partsAtHome 43 = .ok (.iconst 0, 1) := by decide +kernel
theorem dX11_partsAtHome_44 : decode cX11_partsAtHome 44 = .ok (.istore_n 3, 1) := by decide +kernel
theorem dX11_partsAtHome_45 : decode cX11_partsAtHome 45 = .ok (.iload_n 3, 1) := by decide +kernel
theorem dX11_partsAtHome_46 : decode cX11_partsAtHome 46 = .ok (.iload_n 2, 1) := by decide +kernel
theorem dX11_partsAtHome_47 : decode cX11_partsAtHome 47 = .ok (.if_icmp .ge 83, 3) := by decide +kernel
theorem dX11_partsAtHome_50 : decode cX11_partsAtHome 50 = .ok (.iconst 1, 1) := by decide +kernel
theorem dX11_partsAtHome_51 : decode cX11_partsAtHome 51 = .ok (.istore 4, 2) := by decide +kernel
theorem dX11_partsAtHome_53 : decode cX11_partsAtHome 53 = .ok (.iload 4, 2) := by decide +kernel
theorem dX11_partsAtHome_55 : decode cX11_partsAtHome 55 = .ok (.aload_n 0, 1) := by decide +kernel
theorem dX11_partsAtHome_56 : decode cX11_partsAtHome 56 = .ok (.getfield 97, 3) := by decide +kernel
theorem dX11_partsAtHome_59 : decode cX11_partsAtHome 59 = .ok (.arraylength, 1) := by decide +kernel
theorem dX11_partsAtHome_60 : decode cX11_partsAtHome 60 = .ok (.if_icmp .ge 64, 3) := by decide +kernel
theorem dX11_partsAtHome_63 : decode cX11_partsAtHome 63 = .ok (.aload_n 0, 1) := by decide +kernel
theorem dX11_partsAtHome_64 : decode cX11_partsAtHome 64 = .ok (.getfield 97, 3) := by decide +kernel
theorem dX11_partsAtHome_67 : decode cX11_partsAtHome 67 = .ok (.iload 4, 2) := by decide +kernel
theorem dX11_partsAtHome_69 : decode cX11_partsAtHome 69 = .ok (.laload, 1) := by decide +kernel
theorem dX11_partsAtHome_70 : decode cX11_partsAtHome 70 = .ok (.aload_n 0, 1) := by decide +kernel
theorem dX11_partsAtHome_71 : decode cX11_partsAtHome 71 = .ok (.getfield 19, 3) := by decide +kernel
theorem dX11_partsAtHome_74 : decode cX11_partsAtHome 74 = .ok (.getfield 180, 3) := by decide +kernel
theorem dX11_partsAtHome_77 : decode cX11_partsAtHome 77 = .ok (.iload_n 1, 1) := by decide +kernel
theorem dX11_partsAtHome_78 : decode cX11_partsAtHome 78 = .ok (.iaload, 1) := by decide +kernel
theorem dX11_partsAtHome_79 : decode cX11_partsAtHome 79 = .ok (.i2l, 1) := by decide +kernel
theorem dX11_partsAtHome_80 : decode cX11_partsAtHome 80 = .ok (.lmul, 1) := by decide +kernel
theorem dX11_partsAtHome_81 : decode cX11_partsAtHome 81 = .ok (.ldc2_w 455, 3) := by decide +kernel
theorem dX11_partsAtHome_84 : decode cX11_partsAtHome 84 = .ok (.ldiv, 1) := by decide +kernel
theorem dX11_partsAtHome_85 : decode cX11_partsAtHome 85 = .ok (.lstore 5, 2) := by decide +kernel
theorem dX11_partsAtHome_87 : decode cX11_partsAtHome 87 = .ok (.aload_n 0, 1) := by decide +kernel
theorem dX11_partsAtHome_88 : decode cX11_partsAtHome 88 = .ok (.getfield 97, 3) := by decide +kernel
theorem dX11_partsAtHome_91 : decode cX11_partsAtHome 91 = .ok (.iload 4, 2) := by decide +kernel
theorem dX11_partsAtHome_93 : decode cX11_partsAtHome 93 = .ok (.iconst 1, 1) := by decide +kernel
theorem dX11_partsAtHome_94 : decode cX11_partsAtHome 94 = .ok (.isub, 1) := by decide +kernel
theorem dX11_partsAtHome_95 : decode cX11_partsAtHome 95 = .ok (.dup2, 1) := by decide +kernel
theorem dX11_partsAtHome_96 : decode cX11_partsAtHome 96 = .ok (.laload, 1) := by decide +kernel
theorem dX11_partsAtHome_97 : decode cX11_partsAtHome 97 = .ok (.aload_n 0, 1) := by decide +kernel
theorem dX11_partsAtHome_98 : decode cX11_partsAtHome 98 = .ok (.getfield 97, 3) := by decide +kernel
theorem dX11_partsAtHome_101 : decode cX11_partsAtHome 101 = .ok (.iload 4, 2) := by decide +kernel
theorem dX11_partsAtHome_103 : decode cX11_partsAtHome 103 = .ok (.laload, 1) := by decide +kernel
theorem dX11_partsAtHome_104 : decode cX11_partsAtHome 104 = .ok (.lload 5, 2) := by decide +kernel
theorem dX11_partsAtHome_106 : decode cX11_partsAtHome 106 = .ok (.lsub, 1) := by decide +kernel
theorem dX11_partsAtHome_107 : decode cX11_partsAtHome 107 = .ok (.ladd, 1) := by decide +kernel
theorem dX11_partsAtHome_108 : decode cX11_partsAtHome 108 = .ok (.lastore, 1) := by decide +kernel
theorem dX11_partsAtHome_109 : decode cX11_partsAtHome 109 = .ok (.aload_n 0, 1) := by decide +kernel
theorem dX11_partsAtHome_110 : decode cX11_partsAtHome 110 = .ok (.getfield 97, 3) := by decide +kernel
theorem dX11_partsAtHome_113 : decode cX11_partsAtHome 113 = .ok (.iload 4, 2) := by decide +kernel
theorem dX11_partsAtHome_115 : decode cX11_partsAtHome 115 = .ok (.lload 5, 2) := by decide +kernel
theorem dX11_partsAtHome_117 : decode cX11_partsAtHome 117 = .ok (.lastore, 1) := by decide +kernel
theorem dX11_partsAtHome_118 : decode cX11_partsAtHome 118 = .ok (.iinc 4 1, 3) := by decide +kernel
theorem dX11_partsAtHome_121 : decode cX11_partsAtHome 121 = .ok (.goto (-68), 3) := by decide +kernel
theorem dX11_partsAtHome_124 : decode cX11_partsAtHome 124 = .ok (.iinc 3 1, 3) := by decide +kernel
theorem dX11_partsAtHome_127 : decode cX11_partsAtHome 127 = .ok (.goto (-82), 3) := by decide +kernel
theorem dX11_partsAtHome_130 : decode cX11_partsAtHome 130 = .ok (.aload_n 0, 1) := by decide +kernel
theorem dX11_partsAtHome_131 : decode cX11_partsAtHome 131 = .ok (.getfield 97, 3) := by decide +kernel
theorem dX11_partsAtHome_134 : decode cX11_partsAtHome 134 = .ok (.iconst 0, 1) := by decide +kernel
theorem dX11_partsAtHome_135 : decode cX11_partsAtHome 135 = .ok (.laload, 1) := by decide +kernel
theorem dX11_partsAtHome_136 : decode cX11_partsAtHome 136 = .ok (.l2i, 1) := by decide +kernel
theorem dX11_partsAtHome_137 : decode cX11_partsAtHome 137 = .ok (.ireturn, 1) := by decide +kernel
theorem dX12_in_0 : decode cX12_in 0 = .ok (.iload_n 0, 1) := by decide +kernel
theorem dX12_in_1 : decode cX12_in 1 = .ok (.iload_n 1, 1) := by decide +kernel
theorem dX12_in_2 : decode cX12_in 2 = .ok (.if_icmp .lt 12, 3) := by decide +kernel
theorem dX12_in_5 : decode cX12_in 5 = .ok (.iload_n 0, 1) := by decide +kernel
theorem dX12_in_6 : decode cX12_in 6 = .ok (.iload_n 2, 1) := by decide +kernel
theorem dX12_in_7 : decode cX12_in 7 = .ok (.if_icmp .gt 7, 3) := by decide +kernel
theorem dX12_in_10 : decode cX12_in 10 = .ok (.iconst 1, 1) := by decide +kernel
theorem dX12_in_11 : decode cX12_in 11 = .ok (.goto 4, 3) := by decide +kernel
theorem dX12_in_14 : decode cX12_in 14 = .ok (.iconst 0, 1) := by decide +kernel
theorem dX12_in_15 : decode cX12_in 15 = .ok (.ireturn, 1) := by decide +kernel
theorem dX12_has_0 : decode cX12_has 0 = .ok (.iload_n 0, 1) := by decide +kernel
theorem dX12_has_1 : decode cX12_has 1 = .ok (.iload_n 1, 1) := by decide +kernel
theorem dX12_has_2 : decode cX12_has 2 = .ok (.ishr, 1) := by decide +kernel
theorem dX12_has_3 : decode cX12_has 3 = .ok (.iconst 1, 1) := by decide +kernel
theorem dX12_has_4 : decode cX12_has 4 = .ok (.iand, 1) := by decide +kernel
theorem dX12_has_5 : decode cX12_has 5 = .ok (.iconst 1, 1) := by decide +kernel
theorem dX12_has_6 : decode cX12_has 6 = .ok (.if_icmp .ne 7, 3) := by decide +kernel
theorem dX12_has_9 : decode cX12_has 9 = .ok (.iconst 1, 1) := by decide +kernel
theorem dX12_has_10 : decode cX12_has 10 = .ok (.goto 4, 3) := by decide +kernel
theorem dX12_has_13 : decode cX12_has 13 = .ok (.iconst 0, 1) := by decide +kernel
theorem dX12_has_14 : decode cX12_has 14 = .ok (.ireturn, 1) := by decide +kernel
theorem dX12_init_0 : decode cX12_init 0 = .ok (.aload_n 0, 1) := by decide +kernel
theorem dX12_init_1 : decode cX12_init 1 = .ok (.invokespecial 3, 3) := by decide +kernel
theorem dX12_init_4 : decode cX12_init 4 = .ok (.aload_n 0, 1) := by decide +kernel
theorem dX12_init_5 : decode cX12_init 5 = .ok (.sipush 240, 3) := by decide +kernel
theorem dX12_init_8 : decode cX12_init 8 = .ok (.newarray .int, 2) := by decide +kernel
theorem dX12_init_10 : decode cX12_init 10 = .ok (.putfield 9, 3) := by decide +kernel
theorem dX12_init_13 : decode cX12_init 13 = .ok (.aload_n 0, 1) := by decide +kernel
theorem dX12_init_14 : decode cX12_init 14 = .ok (.sipush 2600, 3) := by decide +kernel
theorem dX12_init_17 : decode cX12_init 17 = .ok (.newarray .int, 2) := by decide +kernel
theorem dX12_init_19 : decode cX12_init 19 = .ok (.putfield 13, 3) := by decide +kernel
theorem dX12_init_22 : decode cX12_init 22 = .ok (.aload_n 0, 1) := by decide +kernel
theorem dX12_init_23 : decode cX12_init 23 = .ok (.sipush 2600, 3) := by decide +kernel
theorem dX12_init_26 : decode cX12_init 26 = .ok (.newarray .int, 2) := by decide +kernel
theorem dX12_init_28 : decode cX12_init 28 = .ok (.putfield 16, 3) := by decide +kernel
theorem dX12_init_31 : decode cX12_init 31 = .ok (.aload_n 0, 1) := by decide +kernel
theorem dX12_init_32 : decode cX12_init 32 = .ok (.iconst 5, 1) := by decide +kernel
theorem dX12_init_33 : decode cX12_init 33 = .ok (.newarray .int, 2) := by decide +kernel
theorem dX12_init_35 : decode cX12_init 35 = .ok (.putfield 19, 3) := by decide +kernel
theorem dX12_init_38 : decode cX12_init 38 = .ok (.aload_n 0, 1) := by decide +kernel
theorem dX12_init_39 : decode cX12_init 39 = .ok (.iconst 5, 1) := by decide +kernel
theorem dX12_init_40 : decode cX12_init 40 = .ok (.newarray .int, 2) := by decide +kernel
theorem dX12_init_42 : decode cX12_init 42 = .ok (.putfield 22, 3) := by decide +kernel
theorem dX12_init_45 : decode cX12_init 45 = .ok (.aload_n 0, 1) := by decide +kernel
theorem dX12_init_46 : decode cX12_init 46 = .ok (.sipush 700, 3) := by decide +kernel
theorem dX12_init_49 : decode cX12_init 49 = .ok (.newarray .int, 2) := by decide +kernel
theorem dX12_init_51 : decode cX12_init 51 = .ok (.putfield 25, 3) := by decide +kernel
theorem dX12_init_54 : decode cX12_init 54 = .ok (.aload_n 0, 1) := by decide +kernel
theorem dX12_init_55 : decode cX12_init 55 = .ok (.sipush 700, 3) := by decide +kernel
theorem dX12_init_58 : decode cX12_init 58 = .ok (.newarray .int, 2) := by decide +kernel
theorem dX12_init_60 : decode cX12_init 60 = .ok (.putfield 28, 3) := by decide +kernel
theorem dX12_init_63 : decode cX12_init 63 = .ok (.aload_n 0, 1) := by decide +kernel
theorem dX12_init_64 : decode cX12_init 64 = .ok (.sipush 700, 3) := by decide +kernel
theorem dX12_init_67 : decode cX12_init 67 = .ok (.newarray .int, 2) := by decide +kernel
theorem dX12_init_69 : decode cX12_init 69 = .ok (.putfield 31, 3) := by decide +kernel
theorem dX12_init_72 : decode cX12_init 72 = .ok (.aload_n 0, 1) := by decide +kernel
theorem dX12_init_73 : decode cX12_init 73 = .ok (.bipush 6, 2) := by decide +kernel
theorem dX12_init_75 : decode cX12_init 75 = .ok (.newarray .int, 2) := by decide +kernel
theorem dX12_init_77 : decode cX12_init 77 = .ok (.putfield 34, 3) := by decide +kernel
theorem dX12_init_80 : decode cX12_init 80 = .ok (.aload_n 0, 1) := by decide +kernel
theorem dX12_init_81 : decode cX12_init 81 = .ok (.bipush 80, 2) := by decide +kernel
theorem dX12_init_83 : decode cX12_init 83 = .ok (.newarray .int, 2) := by decide +kernel
theorem dX12_init_85 : decode cX12_init 85 = .ok (.putfield 37, 3) := by decide +kernel
theorem dX12_init_88 : decode cX12_init 88 = .ok (.aload_n 0, 1) := by decide +kernel
theorem dX12_init_89 : decode cX12_init 89 = .ok (.bipush 48, 2) := by decide +kernel
theorem dX12_init_91 : decode cX12_init 91 = .ok (.newarray .int, 2) := by decide +kernel
theorem dX12_init_93 : decode cX12_init 93 = .ok (.putfield 40, 3) := by decide +kernel
theorem dX12_init_96 : decode cX12_init 96 = .ok (.aload_n 0, 1) := by decide +kernel
theorem dX12_init_97 : decode cX12_init 97 = .ok (.bipush 12, 2) := by decide +kernel
theorem dX12_init_99 : decode cX12_init 99 = .ok (.newarray .int, 2) := by decide +kernel
theorem dX12_init_101 : decode cX12_init 101 = .ok (.putfield 43, 3) := by decide +kernel
theorem dX12_init_104 : decode cX12_init 104 = .ok (.aload_n 0, 1) := by decide +kernel
theorem dX12_init_105 : decode cX12_init 105 = .ok (.iconst 2, 1) := by decide +kernel
theorem dX12_init_106 : decode cX12_init 106 = .ok (.newarray .int, 2) := by decide +kernel
theorem dX12_init_108 : decode cX12_init 108 = .ok (.putfield 46, 3) := by decide +kernel
theorem dX12_init_111 : decode cX12_init 111 = .ok (.aload_n 0, 1) := by decide +kernel
theorem dX12_init_112 : decode cX12_init 112 = .ok (.bipush 48, 2) := by decide +kernel
theorem dX12_init_114 : decode cX12_init 114 = .ok (.newarray .int, 2) := by decide +kernel
theorem dX12_init_116 : decode cX12_init 116 = .ok (.putfield 49, 3) := by decide +kernel
theorem dX12_init_119 : decode cX12_init 119 = .ok (.aload_n 0, 1) := by decide +kernel
theorem dX12_init_120 : decode cX12_init 120 = .ok (.bipush 12, 2) := by decide +kernel
theorem dX12_init_122 : decode cX12_init 122 = .ok (.newarray .int, 2) := by decide +kernel
theorem dX12_init_124 : decode cX12_init 124 = .ok (.putfield 52, 3) := by decide +kernel
theorem dX12_init_127 : decode cX12_init 127 = .ok (.aload_n 0, 1) := by decide +kernel
theorem dX12_init_128 : decode cX12_init 128 = .ok (.iconst 2, 1) := by decide +kernel
theorem dX12_init_129 : decode cX12_init 129 = .ok (.newarray .int, 2) := by decide +kernel
theorem dX12_init_131 : decode cX12_init 131 = .ok (.putfield 55, 3) := by decide +kernel
theorem dX12_init_134 : decode cX12_init 134 = .ok (.aload_n 0, 1) := by decide +kernel
theorem dX12_init_135 : decode cX12_init 135 = .ok (.sipush 206, 3) := by decide +kernel
theorem dX12_init_138 : decode cX12_init 138 = .ok (.newarray .int, 2) := by decide +kernel
theorem dX12_init_140 : decode cX12_init 140 = .ok (.putfield 58, 3) := by decide +kernel
theorem dX12_init_143 : decode cX12_init 143 = .ok (.aload_n 0, 1) := by decide +kernel
theorem dX12_init_144 : decode cX12_init 144 = .ok (.iconst (-1), 1) := by decide +kernel
theorem dX12_init_145 : decode cX12_init 145 = .ok (.putfield 61, 3) := by decide +kernel
theorem dX12_init_148 : decode cX12_init 148 = .ok (.aload_n 0, 1) := by decide +kernel
theorem dX12_init_149 : decode cX12_init 149 = .ok (.sipush 8240, 3) := by decide +kernel
theorem dX12_init_152 : decode cX12_init 152 = .ok (.newarray .int, 2) := by decide +kernel
theorem dX12_init_154 : decode cX12_init 154 = .ok (.putfield 65, 3) := by decide +kernel
theorem dX12_init_157 : decode cX12_init 157 = .ok (.aload_n 0, 1) := by decide +kernel
theorem dX12_init_158 : decode cX12_init 158 = .ok (.ldc 68, 2) := by decide +kernel
theorem dX12_init_160 : decode cX12_init 160 = .ok (.newarray .int, 2) := by decide +kernel
theorem dX12_init_162 : decode cX12_init 162 = .ok (.putfield 69, 3) := by decide +kernel
theorem dX12_init_165 : decode cX12_init 165 = .ok (.aload_n 0, 1) := by decide +kernel
theorem dX12_init_166 : decode cX12_init 166 = .ok (.iconst 2, 1) := by decide +kernel
theorem dX12_init_167 : decode cX12_init 167 = .ok (.newarray .int, 2) := by decide +kernel
theorem dX12_init_169 : decode cX12_init 169 = .ok (.putfield 72, 3) := by decide +kernel
theorem dX12_init_172 : decode cX12_init 172 = .ok (.aload_n 0, 1) := by decide +kernel
theorem dX12_init_173 : decode cX12_init 173 = .ok (.bipush 10, 2) := by decide +kernel
theorem dX12_init_175 : decode cX12_init 175 = .ok (.newarray .int, 2) := by decide +kernel
theorem dX12_init_177 : decode cX12_init 177 = .ok (.putfield 75, 3) := by decide +kernel
theorem dX12_init_180 : decode cX12_init 180 = .ok (.aload_n 0, 1) := by decide +kernel
theorem dX12_init_181 : decode cX12_init 181 = .ok (.bipush 10, 2) := by decide +kernel
theorem dX12_init_183 : decode cX12_init 183 = .ok (.newarray .int, 2) := by decide +kernel
theorem dX12_init_185 : decode cX12_init 185 = .ok (.putfield 78, 3) := by decide +kernel
theorem dX12_init_188 : decode cX12_init 188 = .ok (.aload_n 0, 1) := by decide +kernel
theorem dX12_init_189 : decode cX12_init 189 = .ok (.bipush 84, 2) := by decide +kernel
theorem dX12_init_191 : decode cX12_init 191 = .ok (.newarray .int, 2) := by decide +kernel
theorem dX12_init_193 : decode cX12_init 193 = .ok (.putfield 81, 3) := by decide +kernel
theorem dX12_init_196 : decode cX12_init 196 = .ok (.aload_n 0, 1) := by decide +kernel
theorem dX12_init_197 : decode cX12_init 197 = .ok (.bipush 21, 2) := by decide +kernel
theorem dX12_init_199 : decode cX12_init 199 = .ok (.newarray .long, 2) := by decide +kernel
theorem dX12_init_201 : decode cX12_init 201 = .ok (.putfield 84, 3) := by decide +kernel
theorem dX12_init_204 : decode cX12_init 204 = .ok (.aload_n 0, 1) := by decide +kernel
theorem dX12_init_205 : decode cX12_init 205 = .ok (.sipush 206, 3) := by decide +kernel
theorem dX12_init_208 : decode cX12_init 208 = .ok (.newarray .int, 2) := by decide +kernel
theorem dX12_init_210 : decode cX12_init 210 = .ok (.putfield 88, 3) := by decide +kernel
theorem dX12_init_213 : decode cX12_init 213 = .ok (.return_, 1) := by decide +kernel
theorem dX12_thrown_0 : decode cX12_thrown 0 = .ok (.aload_n 0, 1) := by decide +kernel
theorem dX12_thrown_1 : decode cX12_thrown 1 = .ok (.getfield 91, 3) := by decide +kernel
theorem dX12_thrown_4 : decode cX12_thrown 4 = .ok (.ireturn, 1) := by decide +kernel
theorem dX12_byteOf_0 : decode cX12_byteOf 0 = .ok (.iload 5, 2) := by decide +kernel
theorem dX12_byteOf_2 : decode cX12_byteOf 2 = .ok (.iconst 4, 1) := by decide +kernel
theorem dX12_byteOf_3 : decode cX12_byteOf 3 = .ok (.if_icmp .ge 7, 3) := by decide +kernel
theorem dX12_byteOf_6 : decode cX12_byteOf 6 = .ok (.iload_n 0, 1) := by decide +kernel
theorem dX12_byteOf_7 : decode cX12_byteOf 7 = .ok (.goto 38, 3) := by decide +kernel
theorem dX12_byteOf_10 : decode cX12_byteOf 10 = .ok (.iload 5, 2) := by decide +kernel
theorem dX12_byteOf_12 : decode cX12_byteOf 12 = .ok (.bipush 8, 2) := by decide +kernel
theorem dX12_byteOf_14 : decode cX12_byteOf 14 = .ok (.if_icmp .ge 7, 3) := by decide +kernel
theorem dX12_byteOf_17 : decode cX12_byteOf 17 = .ok (.iload_n 1, 1) := by decide +kernel
theorem dX12_byteOf_18 : decode cX12_byteOf 18 = .ok (.goto 27, 3) := by decide +kernel
theorem dX12_byteOf_21 : decode cX12_byteOf 21 = .ok (.iload 5, 2) := by decide +kernel
theorem dX12_byteOf_23 : decode cX12_byteOf 23 = .ok (.bipush 12, 2) := by decide +kernel
theorem dX12_byteOf_25 : decode cX12_byteOf 25 = .ok (.if_icmp .ge 7, 3) := by decide +kernel
theorem dX12_byteOf_28 : decode cX12_byteOf 28 = .ok (.iload_n 2, 1) := by decide +kernel
theorem dX12_byteOf_29 : decode cX12_byteOf 29 = .ok (.goto 16, 3) := by decide +kernel
theorem dX12_byteOf_32 : decode cX12_byteOf 32 = .ok (.iload 5, 2) := by decide +kernel
theorem dX12_byteOf_34 : decode cX12_byteOf 34 = .ok (.bipush 16, 2) := by decide +kernel
theorem dX12_byteOf_36 : decode cX12_byteOf 36 = .ok (.if_icmp .ge 7, 3) := by decide +kernel
theorem dX12_byteOf_39 : decode cX12_byteOf 39 = .ok (.iload_n 3, 1) := by decide +kernel
theorem dX12_byteOf_40 : decode cX12_byteOf 40 = .ok (.goto 5, 3) := by decide +kernel
theorem dX12_byteOf_43 : decode cX12_byteOf 43 = .ok (.iload 4, 2) := by decide +kernel
theorem dX12_byteOf_45 : decode cX12_byteOf 45 = .ok (.istore 6, 2) := by decide +kernel
theorem dX12_byteOf_47 : decode cX12_byteOf 47 = .ok (.iload 6, 2) := by decide +kernel
theorem dX12_byteOf_49 : decode cX12_byteOf 49 = .ok (.bipush 24, 2) := by decide +kernel
theorem dX12_byteOf_51 : decode cX12_byteOf 51 = .ok (.bipush 8, 2) := by decide +kernel
theorem dX12_byteOf_53 : decode cX12_byteOf 53 = .ok (.iload 5, 2) := by decide +kernel
theorem dX12_byteOf_55 : decode cX12_byteOf 55 = .ok (.iconst 4, 1) := by decide +kernel
theorem dX12_byteOf_56 : decode cX12_byteOf 56 = .ok (.irem, 1) := by decide +kernel
theorem dX12_byteOf_57 : decode cX12_byteOf 57 = .ok (.imul, 1) := by decide +kernel
theorem dX12_byteOf_58 : decode cX12_byteOf 58 = .ok (.isub, 1) := by decide +kernel
theorem dX12_byteOf_59 : decode cX12_byteOf 59 = .ok (.ishr, 1) := by decide +kernel
theorem dX12_byteOf_60 : decode cX12_byteOf 60 = .ok (.sipush 255, 3) := by decide +kernel
theorem dX12_byteOf_63 : decode cX12_byteOf 63 = .ok (.iand, 1) := by decide +kernel
theorem dX12_byteOf_64 : decode cX12_byteOf 64 = .ok (.ireturn, 1) := by decide +kernel
theorem dX12_feed_0 : decode cX12_feed 0 = .ok (.iconst 0, 1) := by decide +kernel
theorem dX12_feed_1 : decode cX12_feed 1 = .ok (.istore 6, 2) := by decide +kernel
theorem dX12_feed_3 : decode cX12_feed 3 = .ok (.iconst 0, 1) := by decide +kernel
theorem dX12_feed_4 : decode cX12_feed 4 = .ok (.istore 7, 2) := by decide +kernel
theorem dX12_feed_6 : decode cX12_feed 6 = .ok (.iload 7, 2) := by decide +kernel
theorem dX12_feed_8 : decode cX12_feed 8 = .ok (.bipush 20, 2) := by decide +kernel
theorem dX12_feed_10 : decode cX12_feed 10 = .ok (.if_icmp .ge 34, 3) := by decide +kernel
theorem dX12_feed_13 : decode cX12_feed 13 = .ok (.iload 6, 2) := by decide +kernel
theorem dX12_feed_15 : decode cX12_feed 15 = .ok (.iload_n 1, 1) := by decide +kernel
theorem dX12_feed_16 : decode cX12_feed 16 = .ok (.iload_n 2, 1) := by decide +kernel
theorem dX12_feed_17 : decode cX12_feed 17 = .ok (.iload_n 3, 1) := by decide +kernel
theorem dX12_feed_18 : decode cX12_feed 18 = .ok (.iload 4, 2) := by decide +kernel
theorem dX12_feed_20 : decode cX12_feed 20 = .ok (.iload 5, 2) := by decide +kernel
theorem dX12_feed_22 : decode cX12_feed 22 = .ok (.iload 7, 2) := by decide +kernel
theorem dX12_feed_24 : decode cX12_feed 24 = .ok (.invokestatic 94, 3) := by decide +kernel
theorem dX12_feed_27 : decode cX12_feed 27 = .ok (.ifCond .eq 7, 3) := by decide +kernel
theorem dX12_feed_30 : decode cX12_feed 30 = .ok (.iconst 1, 1) := by decide +kernel
theorem dX12_feed_31 : decode cX12_feed 31 = .ok (.goto 4, 3) := by decide +kernel
theorem dX12_feed_34 : decode cX12_feed 34 = .ok (.iconst 0, 1) := by decide +kernel
theorem dX12_feed_35 : decode cX12_feed 35 = .ok (.iadd, 1) := by decide +kernel
theorem dX12_feed_36 : decode cX12_feed 36 = .ok (.istore 6, 2) := by decide +kernel
theorem dX12_feed_38 : decode cX12_feed 38 = .ok (.iinc 7 1, 3) := by decide +kernel
theorem dX12_feed_41 : decode cX12_feed 41 = .ok (.goto (-35), 3) := by decide +kernel
theorem dX12_feed_44 : decode cX12_feed 44 = .ok (.aload_n 0, 1) := by decide +kernel
theorem dX12_feed_45 : decode cX12_feed 45 = .ok (.getfield 98, 3) := by decide +kernel
theorem dX12_feed_48 : decode cX12_feed 48 = .ok (.iload 6, 2) := by decide +kernel
theorem dX12_feed_50 : decode cX12_feed 50 = .ok (.iadd, 1) := by decide +kernel
theorem dX12_feed_51 : decode cX12_feed 51 = .ok (.sipush 240, 3) := by decide +kernel
theorem dX12_feed_54 : decode cX12_feed 54 = .ok (.if_icmp .le 5, 3) := by decide +kernel
theorem dX12_feed_57 : decode cX12_feed 57 = .ok (.iconst (-1), 1) := by decide +kernel
theorem dX12_feed_58 : decode cX12_feed 58 = .ok (.ireturn, 1) := by decide +kernel
theorem dX12_feed_59 : decode cX12_feed 59 = .ok (.iconst 0, 1) := by decide +kernel
theorem dX12_feed_60 : decode cX12_feed 60 = .ok (.istore 7, 2) := by decide +kernel
theorem dX12_feed_62 : decode cX12_feed 62 = .ok (.iload 7, 2) := by decide +kernel
theorem dX12_feed_64 : decode cX12_feed 64 = .ok (.bipush 20, 2) := by decide +kernel
theorem dX12_feed_66 : decode cX12_feed 66 = .ok (.if_icmp .ge 49, 3) := by decide +kernel
theorem dX12_feed_69 : decode cX12_feed 69 = .ok (.iload_n 1, 1) := by decide +kernel
theorem dX12_feed_70 : decode cX12_feed 70 = .ok (.iload_n 2, 1) := by decide +kernel
theorem dX12_feed_71 : decode cX12_feed 71 = .ok (.iload_n 3, 1) := by decide +kernel
theorem dX12_feed_72 : decode cX12_feed 72 = .ok (.iload 4, 2) := by decide +kernel
theorem dX12_feed_74 : decode cX12_feed 74 = .ok (.iload 5, 2) := by decide +kernel
theorem dX12_feed_76 : decode cX12_feed 76 = .ok (.iload 7, 2) := by decide +kernel
theorem dX12_feed_78 : decode cX12_feed 78 = .ok (.invokestatic 94, 3) := by decide +kernel
theorem dX12_feed_81 : decode cX12_feed 81 = .ok (.istore 8, 2) := by decide +kernel
theorem dX12_feed_83 : decode cX12_feed 83 = .ok (.iload 8, 2) := by decide +kernel
theorem dX12_feed_85 : decode cX12_feed 85 = .ok (.ifCond .eq 24, 3) := by decide +kernel
theorem dX12_feed_88 : decode cX12_feed 88 = .ok (.aload_n 0, 1) := by decide +kernel
theorem dX12_feed_89 : decode cX12_feed 89 = .ok (.getfield 9, 3) := by decide +kernel
theorem dX12_feed_92 : decode cX12_feed 92 = .ok (.aload_n 0, 1) := by decide +kernel
theorem dX12_feed_93 : decode cX12_feed 93 = .ok (.getfield 98, 3) := by decide +kernel
theorem dX12_feed_96 : decode cX12_feed 96 = .ok (.iload 8, 2) := by decide +kernel
theorem dX12_feed_98 : decode cX12_feed 98 = .ok (.iastore, 1) := by decide +kernel
theorem dX12_feed_99 : decode cX12_feed 99 = .ok (.aload_n 0, 1) := by decide +kernel
theorem dX12_feed_100 : decode cX12_feed 100 = .ok (.dup, 1) := by decide +kernel
theorem dX12_feed_101 : decode cX12_feed 101 = .ok (.getfield 98, 3) := by decide +kernel
theorem dX12_feed_104 : decode cX12_feed 104 = .ok (.iconst 1, 1) := by decide +kernel
theorem dX12_feed_105 : decode cX12_feed 105 = .ok (.iadd, 1) := by decide +kernel
theorem dX12_feed_106 : decode cX12_feed 106 = .ok (.putfield 98, 3) := by decide +kernel
theorem dX12_feed_109 : decode cX12_feed 109 = .ok (.iinc 7 1, 3) := by decide +kernel
theorem dX12_feed_112 : decode cX12_feed 112 = .ok (.goto (-50), 3) := by decide +kernel
theorem dX12_feed_115 : decode cX12_feed 115 = .ok (.aload_n 0, 1) := by decide +kernel
theorem dX12_feed_116 : decode cX12_feed 116 = .ok (.getfield 98, 3) := by decide +kernel
theorem dX12_feed_119 : decode cX12_feed 119 = .ok (.ireturn, 1) := by decide +kernel
theorem dX12_end_0 : decode cX12_end 0 = .ok (.iload_n 1, 1) := by decide +kernel
theorem dX12_end_1 : decode cX12_end 1 = .ok (.ifCond .lt 11, 3) := by decide +kernel
theorem dX12_end_4 : decode cX12_end 4 = .ok (.iload_n 1, 1) := by decide +kernel
theorem dX12_end_5 : decode cX12_end 5 = .ok (.aload_n 0, 1) := by decide +kernel
theorem dX12_end_6 : decode cX12_end 6 = .ok (.getfield 98, 3) := by decide +kernel
theorem dX12_end_9 : decode cX12_end 9 = .ok (.if_icmp .le 5, 3) := by decide +kernel
theorem dX12_end_12 : decode cX12_end 12 = .ok (.iconst 0, 1) := by decide +kernel
theorem dX12_end_13 : decode cX12_end 13 = .ok (.ireturn, 1) := by decide +kernel
theorem dX12_end_14 : decode cX12_end 14 = .ok (.aload_n 0, 1) := by decide +kernel
theorem dX12_end_15 : decode cX12_end 15 = .ok (.iload_n 1, 1) := by decide +kernel
theorem dX12_end_16 : decode cX12_end 16 = .ok (.putfield 98, 3) := by decide +kernel
theorem dX12_end_19 : decode cX12_end 19 = .ok (.iconst 1, 1) := by decide +kernel
theorem dX12_end_20 : decode cX12_end 20 = .ok (.ireturn, 1) := by decide +kernel
theorem dX12_here_0 : decode cX12_here 0 = .ok (.aload_n 0, 1) := by decide +kernel
theorem dX12_here_1 : decode cX12_here 1 = .ok (.getfield 101, 3) := by decide +kernel
theorem dX12_here_4 : decode cX12_here 4 = .ok (.aload_n 0, 1) := by decide +kernel
theorem dX12_here_5 : decode cX12_here 5 = .ok (.getfield 98, 3) := by decide +kernel
theorem dX12_here_8 : decode cX12_here 8 = .ok (.if_icmp .ge 15, 3) := by decide +kernel
theorem dX12_here_11 : decode cX12_here 11 = .ok (.aload_n 0, 1) := by decide +kernel
theorem dX12_here_12 : decode cX12_here 12 = .ok (.getfield 9, 3) := by decide +kernel
theorem dX12_here_15 : decode cX12_here 15 = .ok (.aload_n 0, 1) := by decide +kernel
theorem dX12_here_16 : decode cX12_here 16 = .ok (.getfield 101, 3) := by decide +kernel
theorem dX12_here_19 : decode cX12_here 19 = .ok (.iaload, 1) := by decide +kernel
theorem dX12_here_20 : decode cX12_here 20 = .ok (.goto 4, 3) := by decide +kernel
theorem dX12_here_23 : decode cX12_here 23 = .ok (.iconst (-1), 1) := by decide +kernel
theorem dX12_here_24 : decode cX12_here 24 = .ok (.ireturn, 1) := by decide +kernel
theorem dX12_look_0 : decode cX12_look 0 = .ok (.aload_n 0, 1) := by decide +kernel
theorem dX12_look_1 : decode cX12_look 1 = .ok (.invokevirtual 104, 3) := by decide +kernel
theorem dX12_look_4 : decode cX12_look 4 = .ok (.bipush 32, 2) := by decide +kernel
theorem dX12_look_6 : decode cX12_look 6 = .ok (.if_icmp .ne 16, 3) := by decide +kernel
theorem dX12_look_9 : decode cX12_look 9 = .ok (.aload_n 0, 1) := by decide +kernel
theorem dX12_look_10 : decode cX12_look 10 = .ok (.dup, 1) := by decide +kernel
theorem dX12_look_11 : decode cX12_look 11 = .ok (.getfield 101, 3) := by decide +kernel
theorem dX12_look_14 : decode cX12_look 14 = .ok (.iconst 1, 1) := by decide +kernel
theorem dX12_look_15 : decode cX12_look 15 = .ok (.iadd, 1) := by decide +kernel
theorem dX12_look_16 : decode cX12_look 16 = .ok (.putfield 101, 3) := by decide +kernel
theorem dX12_look_19 : decode cX12_look 19 = .ok (.goto (-19), 3) := by decide +kernel
theorem dX12_look_22 : decode cX12_look 22 = .ok (.aload_n 0, 1) := by decide +kernel
theorem dX12_look_23 : decode cX12_look 23 = .ok (.invokevirtual 104, 3) := by decide +kernel
theorem dX12_look_26 : decode cX12_look 26 = .ok (.ireturn, 1) := by decide +kernel
theorem dX12_bad_0 : decode cX12_bad 0 = .ok (.aload_n 0, 1) := by decide +kernel
theorem dX12_bad_1 : decode cX12_bad 1 = .ok (.aload_n 0, 1) := by decide +kernel
theorem dX12_bad_2 : decode cX12_bad 2 = .ok (.getfield 108, 3) := by decide +kernel
theorem dX12_bad_5 : decode cX12_bad 5 = .ok (.iconst (-1), 1) := by decide +kernel
theorem dX12_bad_6 : decode cX12_bad 6 = .ok (.if_icmp .ne 10, 3) := by decide +kernel
theorem dX12_bad_9 : decode cX12_bad 9 = .ok (.aload_n 0, 1) := by decide +kernel
theorem dX12_bad_10 : decode cX12_bad 10 = .ok (.getfield 101, 3) := by decide +kernel
theorem dX12_bad_13 : decode cX12_bad 13 = .ok (.goto 7, 3) := by decide +kernel
theorem dX12_bad_16 : decode cX12_bad 16 = .ok (.aload_n 0, 1) := by decide +kernel
theorem dX12_bad_17 : decode cX12_bad 17 = .ok (.getfield 108, 3) := by decide +kernel
theorem dX12_bad_20 : decode cX12_bad 20 = .ok (.putfield 108, 3) := by decide +kernel
theorem dX12_bad_23 : decode cX12_bad 23 = .ok (.return_, 1) := by decide +kernel
theorem dX12_isDigit_0 : decode cX12_isDigit 0 = .ok (.iload_n 0, 1) := by decide +kernel
theorem dX12_isDigit_1 : decode cX12_isDigit 1 = .ok (.bipush 48, 2) := by decide +kernel
theorem dX12_isDigit_3 : decode cX12_isDigit 3 = .ok (.if_icmp .lt 13, 3) := by decide +kernel
theorem dX12_isDigit_6 : decode cX12_isDigit 6 = .ok (.iload_n 0, 1) := by decide +kernel
theorem dX12_isDigit_7 : decode cX12_isDigit 7 = .ok (.bipush 57, 2) := by decide +kernel
theorem dX12_isDigit_9 : decode cX12_isDigit 9 = .ok (.if_icmp .gt 7, 3) := by decide +kernel
theorem dX12_isDigit_12 : decode cX12_isDigit 12 = .ok (.iconst 1, 1) := by decide +kernel
theorem dX12_isDigit_13 : decode cX12_isDigit 13 = .ok (.goto 4, 3) := by decide +kernel
theorem dX12_isDigit_16 : decode cX12_isDigit 16 = .ok (.iconst 0, 1) := by decide +kernel
theorem dX12_isDigit_17 : decode cX12_isDigit 17 = .ok (.ireturn, 1) := by decide +kernel
theorem dX12_put_0 : decode cX12_put 0 = .ok (.aload_n 0, 1) := by decide +kernel
theorem dX12_put_1 : decode cX12_put 1 = .ok (.getfield 13, 3) := by decide +kernel
theorem dX12_put_4 : decode cX12_put 4 = .ok (.sipush 520, 3) := by decide +kernel
theorem dX12_put_7 : decode cX12_put 7 = .ok (.aload_n 0, 1) := by decide +kernel
theorem dX12_put_8 : decode cX12_put 8 = .ok (.getfield 111, 3) := by decide +kernel
theorem dX12_put_11 : decode cX12_put 11 = .ok (.imul, 1) := by decide +kernel
theorem dX12_put_12 : decode cX12_put 12 = .ok (.aload_n 0, 1) := by decide +kernel
theorem dX12_put_13 : decode cX12_put 13 = .ok (.getfield 19, 3) := by decide +kernel
theorem dX12_put_16 : decode cX12_put 16 = .ok (.aload_n 0, 1) := by decide +kernel
theorem dX12_put_17 : decode cX12_put 17 = .ok (.getfield 111, 3) := by decide +kernel
theorem dX12_put_20 : decode cX12_put 20 = .ok (.iaload, 1) := by decide +kernel
theorem dX12_put_21 : decode cX12_put 21 = .ok (.iadd, 1) := by decide +kernel
theorem dX12_put_22 : decode cX12_put 22 = .ok (.iload_n 1, 1) := by decide +kernel
theorem dX12_put_23 : decode cX12_put 23 = .ok (.iastore, 1) := by decide +kernel
theorem dX12_put_24 : decode cX12_put 24 = .ok (.aload_n 0, 1) := by decide +kernel
theorem dX12_put_25 : decode cX12_put 25 = .ok (.getfield 16, 3) := by decide +kernel
theorem dX12_put_28 : decode cX12_put 28 = .ok (.sipush 520, 3) := by decide +kernel
theorem dX12_put_31 : decode cX12_put 31 = .ok (.aload_n 0, 1) := by decide +kernel
theorem dX12_put_32 : decode cX12_put 32 = .ok (.getfield 111, 3) := by decide +kernel
theorem dX12_put_35 : decode cX12_put 35 = .ok (.imul, 1) := by decide +kernel
theorem dX12_put_36 : decode cX12_put 36 = .ok (.aload_n 0, 1) := by decide +kernel
theorem dX12_put_37 : decode cX12_put 37 = .ok (.getfield 19, 3) := by decide +kernel
theorem dX12_put_40 : decode cX12_put 40 = .ok (.aload_n 0, 1) := by decide +kernel
theorem dX12_put_41 : decode cX12_put 41 = .ok (.getfield 111, 3) := by decide +kernel
theorem dX12_put_44 : decode cX12_put 44 = .ok (.iaload, 1) := by decide +kernel
theorem dX12_put_45 : decode cX12_put 45 = .ok (.iadd, 1) := by decide +kernel
theorem dX12_put_46 : decode cX12_put 46 = .ok (.iload_n 2, 1) := by decide +kernel
theorem dX12_put_47 : decode cX12_put 47 = .ok (.iastore, 1) := by decide +kernel
theorem dX12_put_48 : decode cX12_put 48 = .ok (.aload_n 0, 1) := by decide +kernel
theorem dX12_put_49 : decode cX12_put 49 = .ok (.getfield 19, 3) := by decide +kernel
theorem dX12_put_52 : decode cX12_put 52 = .ok (.aload_n 0, 1) := by decide +kernel
theorem dX12_put_53 : decode cX12_put 53 = .ok (.getfield 111, 3) := by decide +kernel
theorem dX12_put_56 : decode cX12_put 56 = .ok (.dup2, 1) := by decide +kernel
theorem dX12_put_57 : decode cX12_put 57 = .ok (.iaload, 1) := by decide +kernel
theorem dX12_put_58 : decode cX12_put 58 = .ok (.iconst 1, 1) := by decide +kernel
theorem dX12_put_59 : decode cX12_put 59 = .ok (.iadd, 1) := by decide +kernel
theorem dX12_put_60 : decode cX12_put 60 = .ok (.iastore, 1) := by decide +kernel
theorem dX12_put_61 : decode cX12_put 61 = .ok (.return_, 1) := by decide +kernel
theorem dX12_letterOf_0 : decode cX12_letterOf 0 = .ok (.iload_n 0, 1) := by decide +kernel
theorem dX12_letterOf_1 : decode cX12_letterOf 1 = .ok (.bipush 100, 2) := by decide +kernel
theorem dX12_letterOf_3 : decode cX12_letterOf 3 = .ok (.if_icmp .ne 7, 3) := by decide +kernel
theorem dX12_letterOf_6 : decode cX12_letterOf 6 = .ok (.iconst 0, 1) := by decide +kernel
theorem dX12_letterOf_7 : decode cX12_letterOf 7 = .ok (.goto 54, 3) := by decide +kernel
theorem dX12_letterOf_10 : decode cX12_letterOf 10 = .ok (.iload_n 0, 1) := by decide +kernel
theorem dX12_letterOf_11 : decode cX12_letterOf 11 = .ok (.bipush 98, 2) := by decide +kernel
theorem dX12_letterOf_13 : decode cX12_letterOf 13 = .ok (.if_icmp .ne 7, 3) := by decide +kernel
theorem dX12_letterOf_16 : decode cX12_letterOf 16 = .ok (.iconst 1, 1) := by decide +kernel
theorem dX12_letterOf_17 : decode cX12_letterOf 17 = .ok (.goto 44, 3) := by decide +kernel
theorem dX12_letterOf_20 : decode cX12_letterOf 20 = .ok (.iload_n 0, 1) := by decide +kernel
theorem dX12_letterOf_21 : decode cX12_letterOf 21 = .ok (.bipush 110, 2) := by decide +kernel
theorem dX12_letterOf_23 : decode cX12_letterOf 23 = .ok (.if_icmp .ne 7, 3) := by decide +kernel
theorem dX12_letterOf_26 : decode cX12_letterOf 26 = .ok (.iconst 2, 1) := by decide +kernel
theorem dX12_letterOf_27 : decode cX12_letterOf 27 = .ok (.goto 34, 3) := by decide +kernel
theorem dX12_letterOf_30 : decode cX12_letterOf 30 = .ok (.iload_n 0, 1) := by decide +kernel
theorem dX12_letterOf_31 : decode cX12_letterOf 31 = .ok (.bipush 105, 2) := by decide +kernel
theorem dX12_letterOf_33 : decode cX12_letterOf 33 = .ok (.if_icmp .ne 7, 3) := by decide +kernel
theorem dX12_letterOf_36 : decode cX12_letterOf 36 = .ok (.iconst 3, 1) := by decide +kernel
theorem dX12_letterOf_37 : decode cX12_letterOf 37 = .ok (.goto 24, 3) := by decide +kernel
theorem dX12_letterOf_40 : decode cX12_letterOf 40 = .ok (.iload_n 0, 1) := by decide +kernel
theorem dX12_letterOf_41 : decode cX12_letterOf 41 = .ok (.bipush 121, 2) := by decide +kernel
theorem dX12_letterOf_43 : decode cX12_letterOf 43 = .ok (.if_icmp .ne 7, 3) := by decide +kernel
theorem dX12_letterOf_46 : decode cX12_letterOf 46 = .ok (.iconst 4, 1) := by decide +kernel
theorem dX12_letterOf_47 : decode cX12_letterOf 47 = .ok (.goto 14, 3) := by decide +kernel
theorem dX12_letterOf_50 : decode cX12_letterOf 50 = .ok (.iload_n 0, 1) := by decide +kernel
theorem dX12_letterOf_51 : decode cX12_letterOf 51 = .ok (.bipush 115, 2) := by decide +kernel
theorem dX12_letterOf_53 : decode cX12_letterOf 53 = .ok (.if_icmp .ne 7, 3) := by decide +kernel
theorem dX12_letterOf_56 : decode cX12_letterOf 56 = .ok (.iconst 5, 1) := by decide +kernel
theorem dX12_letterOf_57 : decode cX12_letterOf 57 = .ok (.goto 4, 3) := by decide +kernel
theorem dX12_letterOf_60 : decode cX12_letterOf 60 = .ok (.iconst (-1), 1) := by decide +kernel
theorem dX12_letterOf_61 : decode cX12_letterOf 61 = .ok (.ireturn, 1) := by decide +kernel
theorem dX12_opens_0 : decode cX12_opens 0 = .ok (.aload_n 0, 1) := by decide +kernel
theorem dX12_opens_1 : decode cX12_opens 1 = .ok (.getfield 114, 3) := by decide +kernel
theorem dX12_opens_4 : decode cX12_opens 4 = .ok (.bipush 6, 2) := by decide +kernel
theorem dX12_opens_6 : decode cX12_opens 6 = .ok (.if_icmp .ne 7, 3) := by decide +kernel
theorem dX12_opens_9 : decode cX12_opens 9 = .ok (.aload_n 0, 1) := by decide +kernel
theorem dX12_opens_10 : decode cX12_opens 10 = .ok (.invokevirtual 117, 3) := by decide +kernel
theorem dX12_opens_13 : decode cX12_opens 13 = .ok (.aload_n 0, 1) := by decide +kernel
theorem dX12_opens_14 : decode cX12_opens 14 = .ok (.dup, 1) := by decide +kernel
theorem dX12_opens_15 : decode cX12_opens 15 = .ok (.getfield 114, 3) := by decide +kernel
theorem dX12_opens_18 : decode cX12_opens 18 = .ok (.iconst 1, 1) := by decide +kernel
theorem dX12_opens_19 : decode cX12_opens 19 = .ok (.iadd, 1) := by decide +kernel
theorem dX12_opens_20 : decode cX12_opens 20 = .ok (.putfield 114, 3) := by decide +kernel
theorem dX12_opens_23 : decode cX12_opens 23 = .ok (.aload_n 0, 1) := by decide +kernel
theorem dX12_opens_24 : decode cX12_opens 24 = .ok (.dup, 1) := by decide +kernel
theorem dX12_opens_25 : decode cX12_opens 25 = .ok (.getfield 101, 3) := by decide +kernel
theorem dX12_opens_28 : decode cX12_opens 28 = .ok (.iconst 1, 1) := by decide +kernel
theorem dX12_opens_29 : decode cX12_opens 29 = .ok (.iadd, 1) := by decide +kernel
theorem dX12_opens_30 : decode cX12_opens 30 = .ok (.putfield 101, 3) := by decide +kernel
theorem dX12_opens_33 : decode cX12_opens 33 = .ok (.return_, 1) := by decide +kernel
theorem dX12_closes_0 : decode cX12_closes 0 = .ok (.aload_n 0, 1) := by decide +kernel
theorem dX12_closes_1 : decode cX12_closes 1 = .ok (.getfield 108, 3) := by decide +kernel
theorem dX12_closes_4 : decode cX12_closes 4 = .ok (.iconst (-1), 1) := by decide +kernel
theorem dX12_closes_5 : decode cX12_closes 5 = .ok (.if_icmp .ne 15, 3) := by decide +kernel
theorem dX12_closes_8 : decode cX12_closes 8 = .ok (.aload_n 0, 1) := by decide +kernel
theorem dX12_closes_9 : decode cX12_closes 9 = .ok (.invokevirtual 120, 3) := by decide +kernel
theorem dX12_closes_12 : decode cX12_closes 12 = .ok (.iload_n 1, 1) := by decide +kernel
theorem dX12_closes_13 : decode cX12_closes 13 = .ok (.if_icmp .eq 7, 3) := by decide +kernel
theorem dX12_closes_16 : decode cX12_closes 16 = .ok (.aload_n 0, 1) := by decide +kernel
theorem dX12_closes_17 : decode cX12_closes 17 = .ok (.invokevirtual 117, 3) := by decide +kernel
theorem dX12_closes_20 : decode cX12_closes 20 = .ok (.aload_n 0, 1) := by decide +kernel
theorem dX12_closes_21 : decode cX12_closes 21 = .ok (.dup, 1) := by decide +kernel
theorem dX12_closes_22 : decode cX12_closes 22 = .ok (.getfield 101, 3) := by decide +kernel
theorem dX12_closes_25 : decode cX12_closes 25 = .ok (.iconst 1, 1) := by decide +kernel
theorem dX12_closes_26 : decode cX12_closes 26 = .ok (.iadd, 1) := by decide +kernel
theorem dX12_closes_27 : decode cX12_closes 27 = .ok (.putfield 101, 3) := by decide +kernel
theorem dX12_closes_30 : decode cX12_closes 30 = .ok (.aload_n 0, 1) := by decide +kernel
theorem dX12_closes_31 : decode cX12_closes 31 = .ok (.dup, 1) := by decide +kernel
theorem dX12_closes_32 : decode cX12_closes 32 = .ok (.getfield 114, 3) := by decide +kernel
theorem dX12_closes_35 : decode cX12_closes 35 = .ok (.iconst 1, 1) := by decide +kernel
theorem dX12_closes_36 : decode cX12_closes 36 = .ok (.isub, 1) := by decide +kernel
theorem dX12_closes_37 : decode cX12_closes 37 = .ok (.putfield 114, 3) := by decide +kernel
theorem dX12_closes_40 : decode cX12_closes 40 = .ok (.return_, 1) := by decide +kernel
theorem dX12_plainNumber_0 : decode cX12_plainNumber 0 = .ok (.iconst 0, 1) := by decide +kernel
theorem dX12_plainNumber_1 : decode cX12_plainNumber 1 = .ok (.istore_n 1, 1) := by decide +kernel
theorem dX12_plainNumber_2 : decode cX12_plainNumber 2 = .ok (.iconst 0, 1) := by decide +kernel
theorem dX12_plainNumber_3 : decode cX12_plainNumber 3 = .ok (.istore_n 2, 1) := by decide +kernel
theorem dX12_plainNumber_4 : decode cX12_plainNumber 4 = .ok (.iload_n 2, 1) := by decide +kernel
theorem dX12_plainNumber_5 : decode cX12_plainNumber 5 = .ok (.iconst 4, 1) := by decide +kernel
theorem dX12_plainNumber_6 : decode cX12_plainNumber 6 = .ok (.if_icmp .ge 42, 3) := by decide +kernel
theorem dX12_plainNumber_9 : decode cX12_plainNumber 9 = .ok (.aload_n 0, 1) := by decide +kernel
theorem dX12_plainNumber_10 : decode cX12_plainNumber 10 = .ok (.invokevirtual 104, 3) := by decide +kernel
theorem dX12_plainNumber_13 : decode cX12_plainNumber 13 = .ok (.invokestatic 123, 3) := by decide +kernel
theorem dX12_plainNumber_16 : decode cX12_plainNumber 16 = .ok (.ifCond .eq 32, 3) := by decide +kernel
theorem dX12_plainNumber_19 : decode cX12_plainNumber 19 = .ok (.bipush 10, 2) := by decide +kernel
theorem dX12_plainNumber_21 : decode cX12_plainNumber 21 = .ok (.iload_n 1, 1) := by decide +kernel
theorem dX12_plainNumber_22 : decode cX12_plainNumber 22 = .ok (.imul, 1) := by decide +kernel
theorem dX12_plainNumber_23 : decode cX12_plainNumber 23 = .ok (.aload_n 0, 1) := by decide +kernel
theorem dX12_plainNumber_24 : decode cX12_plainNumber 24 = .ok (.invokevirtual 104, 3) := by decide +kernel
theorem dX12_plainNumber_27 : decode cX12_plainNumber 27 = .ok (.iadd, 1) := by decide +kernel
theorem dX12_plainNumber_28 : decode cX12_plainNumber 28 = .ok (.bipush 48, 2) := by decide +kernel
theorem dX12_plainNumber_30 : decode cX12_plainNumber 30 = .ok (.isub, 1) := by decide +kernel
theorem dX12_plainNumber_31 : decode cX12_plainNumber 31 = .ok (.istore_n 1, 1) := by decide +kernel
theorem dX12_plainNumber_32 : decode cX12_plainNumber 32 = .ok (.aload_n 0, 1) := by decide +kernel
theorem dX12_plainNumber_33 : decode cX12_plainNumber 33 = .ok (.dup, 1) := by decide +kernel
theorem dX12_plainNumber_34 : decode cX12_plainNumber 34 = .ok (.getfield 101, 3) := by decide +kernel
theorem dX12_plainNumber_37 : decode cX12_plainNumber 37 = .ok (.iconst 1, 1) := by decide +kernel
theorem dX12_plainNumber_38 : decode cX12_plainNumber 38 = .ok (.iadd, 1) := by decide +kernel
theorem dX12_plainNumber_39 : decode cX12_plainNumber 39 = .ok (.putfield 101, 3) := by decide +kernel
theorem dX12_plainNumber_42 : decode cX12_plainNumber 42 = .ok (.iinc 2 1, 3) := by decide +kernel
theorem dX12_plainNumber_45 : decode cX12_plainNumber 45 = .ok (.goto (-41), 3) := by decide +kernel
theorem dX12_plainNumber_48 : decode cX12_plainNumber 48 = .ok (.aload_n 0, 1) := by decide +kernel
theorem dX12_plainNumber_49 : decode cX12_plainNumber 49 = .ok (.invokevirtual 104, 3) := by decide +kernel
theorem dX12_plainNumber_52 : decode cX12_plainNumber 52 = .ok (.invokestatic 123, 3) := by decide +kernel
theorem dX12_plainNumber_55 : decode cX12_plainNumber 55 = .ok (.ifCond .eq 7, 3) := by decide +kernel
theorem dX12_plainNumber_58 : decode cX12_plainNumber 58 = .ok (.aload_n 0, 1) := by decide +kernel
theorem dX12_plainNumber_59 : decode cX12_plainNumber 59 = .ok (.invokevirtual 117, 3) := by decide +kernel
theorem dX12_plainNumber_62 : decode cX12_plainNumber 62 = .ok (.iload_n 1, 1) := by decide +kernel
theorem dX12_plainNumber_63 : decode cX12_plainNumber 63 = .ok (.ireturn, 1) := by decide +kernel
theorem dX12_atom_0 : decode cX12_atom 0 = .ok (.aload_n 0, 1) := by decide +kernel
theorem dX12_atom_1 : decode cX12_atom 1 = .ok (.invokevirtual 120, 3) := by decide +kernel
theorem dX12_atom_4 : decode cX12_atom 4 = .ok (.istore_n 1, 1) := by decide +kernel
theorem dX12_atom_5 : decode cX12_atom 5 = .ok (.iload_n 1, 1) := by decide +kernel
theorem dX12_atom_6 : decode cX12_atom 6 = .ok (.invokestatic 123, 3) := by decide +kernel
theorem dX12_atom_9 : decode cX12_atom 9 = .ok (.ifCond .eq 15, 3) := by decide +kernel
theorem dX12_atom_12 : decode cX12_atom 12 = .ok (.aload_n 0, 1) := by decide +kernel
theorem dX12_atom_13 : decode cX12_atom 13 = .ok (.iconst 0, 1) := by decide +kernel
theorem dX12_atom_14 : decode cX12_atom 14 = .ok (.aload_n 0, 1) := by decide +kernel
theorem dX12_atom_15 : decode cX12_atom 15 = .ok (.invokevirtual 127, 3) := by decide +kernel
theorem dX12_atom_18 : decode cX12_atom 18 = .ok (.invokevirtual 130, 3) := by decide +kernel
theorem dX12_atom_21 : decode cX12_atom 21 = .ok (.goto 68, 3) := by decide +kernel
theorem dX12_atom_24 : decode cX12_atom 24 = .ok (.iload_n 1, 1) := by decide +kernel
theorem dX12_atom_25 : decode cX12_atom 25 = .ok (.invokestatic 134, 3) := by decide +kernel
theorem dX12_atom_28 : decode cX12_atom 28 = .ok (.iconst (-1), 1) := by decide +kernel
theorem dX12_atom_29 : decode cX12_atom 29 = .ok (.if_icmp .eq 25, 3) := by decide +kernel
theorem dX12_atom_32 : decode cX12_atom 32 = .ok (.aload_n 0, 1) := by decide +kernel
theorem dX12_atom_33 : decode cX12_atom 33 = .ok (.dup, 1) := by decide +kernel
theorem dX12_atom_34 : decode cX12_atom 34 = .ok (.getfield 101, 3) := by decide +kernel
theorem dX12_atom_37 : decode cX12_atom 37 = .ok (.iconst 1, 1) := by decide +kernel
theorem dX12_atom_38 : decode cX12_atom 38 = .ok (.iadd, 1) := by decide +kernel
theorem dX12_atom_39 : decode cX12_atom 39 = .ok (.putfield 101, 3) := by decide +kernel
theorem dX12_atom_42 : decode cX12_atom 42 = .ok (.aload_n 0, 1) := by decide +kernel
theorem dX12_atom_43 : decode cX12_atom 43 = .ok (.iconst 1, 1) := by decide +kernel
theorem dX12_atom_44 : decode cX12_atom 44 = .ok (.iload_n 1, 1) := by decide +kernel
theorem dX12_atom_45 : decode cX12_atom 45 = .ok (.invokestatic 134, 3) := by decide +kernel
theorem dX12_atom_48 : decode cX12_atom 48 = .ok (.invokevirtual 130, 3) := by decide +kernel
theorem dX12_atom_51 : decode cX12_atom 51 = .ok (.goto 38, 3) := by decide +kernel
theorem dX12_atom_54 : decode cX12_atom 54 = .ok (.iload_n 1, 1) := by decide +kernel
theorem dX12_atom_55 : decode cX12_atom 55 = .ok (.bipush 91, 2) := by decide +kernel
theorem dX12_atom_57 : decode cX12_atom 57 = .ok (.if_icmp .ne 28, 3) := by decide +kernel
theorem dX12_atom_60 : decode cX12_atom 60 = .ok (.aload_n 0, 1) := by decide +kernel
theorem dX12_atom_61 : decode cX12_atom 61 = .ok (.invokevirtual 138, 3) := by decide +kernel
theorem dX12_atom_64 : decode cX12_atom 64 = .ok (.aload_n 0, 1) := by decide +kernel
theorem dX12_atom_65 : decode cX12_atom 65 = .ok (.getfield 108, 3) := by decide +kernel
theorem dX12_atom_68 : decode cX12_atom 68 = .ok (.iconst (-1), 1) := by decide +kernel
theorem dX12_atom_69 : decode cX12_atom 69 = .ok (.if_icmp .ne 20, 3) := by decide +kernel
theorem dX12_atom_72 : decode cX12_atom 72 = .ok (.aload_n 0, 1) := by decide +kernel
theorem dX12_atom_73 : decode cX12_atom 73 = .ok (.invokevirtual 141, 3) := by decide +kernel
theorem dX12_atom_76 : decode cX12_atom 76 = .ok (.aload_n 0, 1) := by decide +kernel
theorem dX12_atom_77 : decode cX12_atom 77 = .ok (.bipush 93, 2) := by decide +kernel
theorem dX12_atom_79 : decode cX12_atom 79 = .ok (.invokevirtual 144, 3) := by decide +kernel
theorem dX12_atom_82 : decode cX12_atom 82 = .ok (.goto 7, 3) := by decide +kernel
theorem dX12_atom_85 : decode cX12_atom 85 = .ok (.aload_n 0, 1) := by decide +kernel
theorem dX12_atom_86 : decode cX12_atom 86 = .ok (.invokevirtual 117, 3) := by decide +kernel
theorem dX12_atom_89 : decode cX12_atom 89 = .ok (.return_, 1) := by decide +kernel
theorem dX12_term_0 : decode cX12_term 0 = .ok (.aload_n 0, 1) := by decide +kernel
theorem dX12_term_1 : decode cX12_term 1 = .ok (.invokevirtual 148, 3) := by decide +kernel
theorem dX12_term_4 : decode cX12_term 4 = .ok (.aload_n 0, 1) := by decide +kernel
theorem dX12_term_5 : decode cX12_term 5 = .ok (.getfield 108, 3) := by decide +kernel
theorem dX12_term_8 : decode cX12_term 8 = .ok (.iconst (-1), 1) := by decide +kernel
theorem dX12_term_9 : decode cX12_term 9 = .ok (.if_icmp .ne 10, 3) := by decide +kernel
theorem dX12_term_12 : decode cX12_term 12 = .ok (.aload_n 0, 1) := by decide +kernel
theorem dX12_term_13 : decode cX12_term 13 = .ok (.invokevirtual 120, 3) := by decide +kernel
theorem dX12_term_16 : decode cX12_term 16 = .ok (.goto 4, 3) := by decide +kernel
theorem dX12_term_19 : decode cX12_term 19 = .ok (.iconst (-1), 1) := by decide +kernel
theorem dX12_term_20 : decode cX12_term 20 = .ok (.istore_n 1, 1) := by decide +kernel
theorem dX12_term_21 : decode cX12_term 21 = .ok (.iload_n 1, 1) := by decide +kernel
theorem dX12_term_22 : decode cX12_term 22 = .ok (.bipush 42, 2) := by decide +kernel
theorem dX12_term_24 : decode cX12_term 24 = .ok (.if_icmp .eq 9, 3) := by decide +kernel
theorem dX12_term_27 : decode cX12_term 27 = .ok (.iload_n 1, 1) := by decide +kernel
theorem dX12_term_28 : decode cX12_term 28 = .ok (.bipush 47, 2) := by decide +kernel
theorem dX12_term_30 : decode cX12_term 30 = .ok (.if_icmp .ne 53, 3) := by decide +kernel
theorem dX12_term_33 : decode cX12_term 33 = .ok (.aload_n 0, 1) := by decide +kernel
theorem dX12_term_34 : decode cX12_term 34 = .ok (.dup, 1) := by decide +kernel
theorem dX12_term_35 : decode cX12_term 35 = .ok (.getfield 101, 3) := by decide +kernel
theorem dX12_term_38 : decode cX12_term 38 = .ok (.iconst 1, 1) := by decide +kernel
theorem dX12_term_39 : decode cX12_term 39 = .ok (.iadd, 1) := by decide +kernel
theorem dX12_term_40 : decode cX12_term 40 = .ok (.putfield 101, 3) := by decide +kernel
theorem dX12_term_43 : decode cX12_term 43 = .ok (.aload_n 0, 1) := by decide +kernel
theorem dX12_term_44 : decode cX12_term 44 = .ok (.invokevirtual 148, 3) := by decide +kernel
theorem dX12_term_47 : decode cX12_term 47 = .ok (.aload_n 0, 1) := by decide +kernel
theorem dX12_term_48 : decode cX12_term 48 = .ok (.iload_n 1, 1) := by decide +kernel
theorem dX12_term_49 : decode cX12_term 49 = .ok (.bipush 42, 2) := by decide +kernel
theorem dX12_term_51 : decode cX12_term 51 = .ok (.if_icmp .ne 7, 3) := by decide +kernel
theorem dX12_term_54 : decode cX12_term 54 = .ok (.iconst 4, 1) := by decide +kernel
theorem dX12_term_55 : decode cX12_term 55 = .ok (.goto 4, 3) := by decide +kernel
theorem dX12_term_58 : decode cX12_term 58 = .ok (.iconst 5, 1) := by decide +kernel
theorem dX12_term_59 : decode cX12_term 59 = .ok (.iconst 0, 1) := by decide +kernel
theorem dX12_term_60 : decode cX12_term 60 = .ok (.invokevirtual 130, 3) := by decide +kernel
theorem dX12_term_63 : decode cX12_term 63 = .ok (.aload_n 0, 1) := by decide +kernel
theorem dX12_term_64 : decode cX12_term 64 = .ok (.getfield 108, 3) := by decide +kernel
theorem dX12_term_67 : decode cX12_term 67 = .ok (.iconst (-1), 1) := by decide +kernel
theorem dX12_term_68 : decode cX12_term 68 = .ok (.if_icmp .ne 10, 3) := by decide +kernel
theorem dX12_term_71 : decode cX12_term 71 = .ok (.aload_n 0, 1) := by decide +kernel
theorem dX12_term_72 : decode cX12_term 72 = .ok (.invokevirtual 120, 3) := by decide +kernel
theorem dX12_term_75 : decode cX12_term 75 = .ok (.goto 4, 3) := by decide +kernel
theorem dX12_term_78 : decode cX12_term 78 = .ok (.iconst (-1), 1) := by decide +kernel
theorem dX12_term_79 : decode cX12_term 79 = .ok (.istore_n 1, 1) := by decide +kernel
theorem dX12_term_80 : decode cX12_term 80 = .ok (.goto (-59), 3) := by decide +kernel
theorem dX12_term_83 : decode cX12_term 83 = .ok (.return_, 1) := by decide +kernel
theorem dX12_sum_0 : decode cX12_sum 0 = .ok (.aload_n 0, 1) := by decide +kernel
theorem dX12_sum_1 : decode cX12_sum 1 = .ok (.invokevirtual 151, 3) := by decide +kernel
theorem dX12_sum_4 : decode cX12_sum 4 = .ok (.aload_n 0, 1) := by decide +kernel
theorem dX12_sum_5 : decode cX12_sum 5 = .ok (.getfield 108, 3) := by decide +kernel
theorem dX12_sum_8 : decode cX12_sum 8 = .ok (.iconst (-1), 1) := by decide +kernel
theorem dX12_sum_9 : decode cX12_sum 9 = .ok (.if_icmp .ne 10, 3) := by decide +kernel
theorem dX12_sum_12 : decode cX12_sum 12 = .ok (.aload_n 0, 1) := by decide +kernel
theorem dX12_sum_13 : decode cX12_sum 13 = .ok (.invokevirtual 120, 3) := by decide +kernel
theorem dX12_sum_16 : decode cX12_sum 16 = .ok (.goto 4, 3) := by decide +kernel
theorem dX12_sum_19 : decode cX12_sum 19 = .ok (.iconst (-1), 1) := by decide +kernel
theorem dX12_sum_20 : decode cX12_sum 20 = .ok (.istore_n 1, 1) := by decide +kernel
theorem dX12_sum_21 : decode cX12_sum 21 = .ok (.iload_n 1, 1) := by decide +kernel
theorem dX12_sum_22 : decode cX12_sum 22 = .ok (.bipush 43, 2) := by decide +kernel
theorem dX12_sum_24 : decode cX12_sum 24 = .ok (.if_icmp .eq 9, 3) := by decide +kernel
theorem dX12_sum_27 : decode cX12_sum 27 = .ok (.iload_n 1, 1) := by decide +kernel
theorem dX12_sum_28 : decode cX12_sum 28 = .ok (.bipush 45, 2) := by decide +kernel
theorem dX12_sum_30 : decode cX12_sum 30 = .ok (.if_icmp .ne 53, 3) := by decide +kernel
theorem dX12_sum_33 : decode cX12_sum 33 = .ok (.aload_n 0, 1) := by decide +kernel
theorem dX12_sum_34 : decode cX12_sum 34 = .ok (.dup, 1) := by decide +kernel
theorem dX12_sum_35 : decode cX12_sum 35 = .ok (.getfield 101, 3) := by decide +kernel
theorem dX12_sum_38 : decode cX12_sum 38 = .ok (.iconst 1, 1) := by decide +kernel
theorem dX12_sum_39 : decode cX12_sum 39 = .ok (.iadd, 1) := by decide +kernel
theorem dX12_sum_40 : decode cX12_sum 40 = .ok (.putfield 101, 3) := by decide +kernel
theorem dX12_sum_43 : decode cX12_sum 43 = .ok (.aload_n 0, 1) := by decide +kernel
theorem dX12_sum_44 : decode cX12_sum 44 = .ok (.invokevirtual 151, 3) := by decide +kernel
theorem dX12_sum_47 : decode cX12_sum 47 = .ok (.aload_n 0, 1) := by decide +kernel
theorem dX12_sum_48 : decode cX12_sum 48 = .ok (.iload_n 1, 1) := by decide +kernel
theorem dX12_sum_49 : decode cX12_sum 49 = .ok (.bipush 43, 2) := by decide +kernel
theorem dX12_sum_51 : decode cX12_sum 51 = .ok (.if_icmp .ne 7, 3) := by decide +kernel
theorem dX12_sum_54 : decode cX12_sum 54 = .ok (.iconst 2, 1) := by decide +kernel
theorem dX12_sum_55 : decode cX12_sum 55 = .ok (.goto 4, 3) := by decide +kernel
theorem dX12_sum_58 : decode cX12_sum 58 = .ok (.iconst 3, 1) := by decide +kernel
theorem dX12_sum_59 : decode cX12_sum 59 = .ok (.iconst 0, 1) := by decide +kernel
theorem dX12_sum_60 : decode cX12_sum 60 = .ok (.invokevirtual 130, 3) := by decide +kernel
theorem dX12_sum_63 : decode cX12_sum 63 = .ok (.aload_n 0, 1) := by decide +kernel
theorem dX12_sum_64 : decode cX12_sum 64 = .ok (.getfield 108, 3) := by decide +kernel
theorem dX12_sum_67 : decode cX12_sum 67 = .ok (.iconst (-1), 1) := by decide +kernel
theorem dX12_sum_68 : decode cX12_sum 68 = .ok (.if_icmp .ne 10, 3) := by decide +kernel
theorem dX12_sum_71 : decode cX12_sum 71 = .ok (.aload_n 0, 1) := by decide +kernel
theorem dX12_sum_72 : decode cX12_sum 72 = .ok (.invokevirtual 120, 3) := by decide +kernel
theorem dX12_sum_75 : decode cX12_sum 75 = .ok (.goto 4, 3) := by decide +kernel
theorem dX12_sum_78 : decode cX12_sum 78 = .ok (.iconst (-1), 1) := by decide +kernel
theorem dX12_sum_79 : decode cX12_sum 79 = .ok (.istore_n 1, 1) := by decide +kernel
theorem dX12_sum_80 : decode cX12_sum 80 = .ok (.goto (-59), 3) := by decide +kernel
theorem dX12_sum_83 : decode cX12_sum 83 = .ok (.return_, 1) := by decide +kernel
theorem dX12_isSign_0 : decode cX12_isSign 0 = .ok (.iload_n 0, 1) := by decide +kernel
theorem dX12_isSign_1 : decode cX12_isSign 1 = .ok (.bipush 61, 2) := by decide +kernel
theorem dX12_isSign_3 : decode cX12_isSign 3 = .ok (.if_icmp .eq 15, 3) := by decide +kernel
theorem dX12_isSign_6 : decode cX12_isSign 6 = .ok (.iload_n 0, 1) := by decide +kernel
theorem dX12_isSign_7 : decode cX12_isSign 7 = .ok (.bipush 60, 2) := by decide +kernel
theorem dX12_isSign_9 : decode cX12_isSign 9 = .ok (.if_icmp .eq 9, 3) := by decide +kernel
theorem dX12_isSign_12 : decode cX12_isSign 12 = .ok (.iload_n 0, 1) := by decide +kernel
theorem dX12_isSign_13 : decode cX12_isSign 13 = .ok (.bipush 62, 2) := by decide +kernel
theorem dX12_isSign_15 : decode cX12_isSign 15 = .ok (.if_icmp .ne 7, 3) := by decide +kernel
theorem dX12_isSign_18 : decode cX12_isSign 18 = .ok (.iconst 1, 1) := by decide +kernel
theorem dX12_isSign_19 : decode cX12_isSign 19 = .ok (.goto 4, 3) := by decide +kernel
theorem dX12_isSign_22 : decode cX12_isSign 22 = .ok (.iconst 0, 1) := by decide +kernel
theorem dX12_isSign_23 : decode cX12_isSign 23 = .ok (.ireturn, 1) := by decide +kernel
theorem dX12_compare_0 : decode cX12_compare 0 = .ok (.aload_n 0, 1) := by decide +kernel
theorem dX12_compare_1 : decode cX12_compare 1 = .ok (.getfield 108, 3) := by decide +kernel
theorem dX12_compare_4 : decode cX12_compare 4 = .ok (.iconst (-1), 1) := by decide +kernel
theorem dX12_compare_5 : decode cX12_compare 5 = .ok (.if_icmp .ne 10, 3) := by decide +kernel
theorem dX12_compare_8 : decode cX12_compare 8 = .ok (.aload_n 0, 1) := by decide +kernel
theorem dX12_compare_9 : decode cX12_compare 9 = .ok (.invokevirtual 120, 3) := by decide +kernel
theorem dX12_compare_12 : decode cX12_compare 12 = .ok (.goto 4, 3) := by decide +kernel
theorem dX12_compare_15 : decode cX12_compare 15 = .ok (.iconst (-1), 1) := by decide +kernel
theorem dX12_compare_16 : decode cX12_compare 16 = .ok (.istore_n 1, 1) := by decide +kernel
theorem dX12_compare_17 : decode cX12_compare 17 = .ok (.iload_n 1, 1) := by decide +kernel
theorem dX12_compare_18 : decode cX12_compare 18 = .ok (.invokestatic 154, 3) := by decide +kernel
theorem dX12_compare_21 : decode cX12_compare 21 = .ok (.ifCond .ne 8, 3) := by decide +kernel
theorem dX12_compare_24 : decode cX12_compare 24 = .ok (.aload_n 0, 1) := by decide +kernel
theorem dX12_compare_25 : decode cX12_compare 25 = .ok (.invokevirtual 117, 3) := by decide +kernel
theorem dX12_compare_28 : decode cX12_compare 28 = .ok (.return_, 1) := by decide +kernel
theorem dX12_compare_29 : decode cX12_compare 29 = .ok (.aload_n 0, 1) := by decide +kernel
theorem dX12_compare_30 : decode cX12_compare 30 = .ok (.dup, 1) := by decide +kernel
theorem dX12_compare_31 : decode cX12_compare 31 = .ok (.getfield 101, 3) := by decide +kernel
theorem dX12_compare_34 : decode cX12_compare 34 = .ok (.iconst 1, 1) := by decide +kernel
theorem dX12_compare_35 : decode cX12_compare 35 = .ok (.iadd, 1) := by decide +kernel
theorem dX12_compare_36 : decode cX12_compare 36 = .ok (.putfield 101, 3) := by decide +kernel
theorem dX12_compare_39 : decode cX12_compare 39 = .ok (.aload_n 0, 1) := by decide +kernel
theorem dX12_compare_40 : decode cX12_compare 40 = .ok (.invokevirtual 141, 3) := by decide +kernel
theorem dX12_compare_43 : decode cX12_compare 43 = .ok (.aload_n 0, 1) := by decide +kernel
theorem dX12_compare_44 : decode cX12_compare 44 = .ok (.iload_n 1, 1) := by decide +kernel
theorem dX12_compare_45 : decode cX12_compare 45 = .ok (.bipush 61, 2) := by decide +kernel
theorem dX12_compare_47 : decode cX12_compare 47 = .ok (.if_icmp .ne 8, 3) := by decide +kernel
theorem dX12_compare_50 : decode cX12_compare 50 = .ok (.bipush 6, 2) := by decide +kernel
theorem dX12_compare_52 : decode cX12_compare 52 = .ok (.goto 16, 3) := by decide +kernel
theorem dX12_compare_55 : decode cX12_compare 55 = .ok (.iload_n 1, 1) := by decide +kernel
theorem dX12_compare_56 : decode cX12_compare 56 = .ok (.bipush 60, 2) := by decide +kernel
theorem dX12_compare_58 : decode cX12_compare 58 = .ok (.if_icmp .ne 8, 3) := by decide +kernel
theorem dX12_compare_61 : decode cX12_compare 61 = .ok (.bipush 7, 2) := by decide +kernel
theorem dX12_compare_63 : decode cX12_compare 63 = .ok (.goto 5, 3) := by decide +kernel
theorem dX12_compare_66 : decode cX12_compare 66 = .ok (.bipush 8, 2) := by decide +kernel
theorem dX12_compare_68 : decode cX12_compare 68 = .ok (.iconst 0, 1) := by decide +kernel
theorem dX12_compare_69 : decode cX12_compare 69 = .ok (.invokevirtual 130, 3) := by decide +kernel
theorem dX12_compare_72 : decode cX12_compare 72 = .ok (.return_, 1) := by decide +kernel
theorem dX12_unit_0 : decode cX12_unit 0 = .ok (.aload_n 0, 1) := by decide +kernel
theorem dX12_unit_1 : decode cX12_unit 1 = .ok (.invokevirtual 120, 3) := by decide +kernel
theorem dX12_unit_4 : decode cX12_unit 4 = .ok (.istore_n 1, 1) := by decide +kernel
theorem dX12_unit_5 : decode cX12_unit 5 = .ok (.iload_n 1, 1) := by decide +kernel
theorem dX12_unit_6 : decode cX12_unit 6 = .ok (.bipush 33, 2) := by decide +kernel
theorem dX12_unit_8 : decode cX12_unit 8 = .ok (.if_icmp .ne 39, 3) := by decide +kernel
theorem dX12_unit_11 : decode cX12_unit 11 = .ok (.aload_n 0, 1) := by decide +kernel
theorem dX12_unit_12 : decode cX12_unit 12 = .ok (.invokevirtual 138, 3) := by decide +kernel
theorem dX12_unit_15 : decode cX12_unit 15 = .ok (.aload_n 0, 1) := by decide +kernel
theorem dX12_unit_16 : decode cX12_unit 16 = .ok (.getfield 108, 3) := by decide +kernel
theorem dX12_unit_19 : decode cX12_unit 19 = .ok (.iconst (-1), 1) := by decide +kernel
theorem dX12_unit_20 : decode cX12_unit 20 = .ok (.if_icmp .ne 74, 3) := by decide +kernel
theorem dX12_unit_23 : decode cX12_unit 23 = .ok (.aload_n 0, 1) := by decide +kernel
theorem dX12_unit_24 : decode cX12_unit 24 = .ok (.invokevirtual 157, 3) := by decide +kernel
theorem dX12_unit_27 : decode cX12_unit 27 = .ok (.aload_n 0, 1) := by decide +kernel
theorem dX12_unit_28 : decode cX12_unit 28 = .ok (.bipush 9, 2) := by decide +kernel
theorem dX12_unit_30 : decode cX12_unit 30 = .ok (.iconst 0, 1) := by decide +kernel
theorem dX12_unit_31 : decode cX12_unit 31 = .ok (.invokevirtual 130, 3) := by decide +kernel
theorem dX12_unit_34 : decode cX12_unit 34 = .ok (.aload_n 0, 1) := by decide +kernel
theorem dX12_unit_35 : decode cX12_unit 35 = .ok (.dup, 1) := by decide +kernel
theorem dX12_unit_36 : decode cX12_unit 36 = .ok (.getfield 114, 3) := by decide +kernel
theorem dX12_unit_39 : decode cX12_unit 39 = .ok (.iconst 1, 1) := by decide +kernel
theorem dX12_unit_40 : decode cX12_unit 40 = .ok (.isub, 1) := by decide +kernel
theorem dX12_unit_41 : decode cX12_unit 41 = .ok (.putfield 114, 3) := by decide +kernel
theorem dX12_unit_44 : decode cX12_unit 44 = .ok (.goto 50, 3) := by decide +kernel
theorem dX12_unit_47 : decode cX12_unit 47 = .ok (.iload_n 1, 1) := by decide +kernel
theorem dX12_unit_48 : decode cX12_unit 48 = .ok (.bipush 40, 2) := by decide +kernel
theorem dX12_unit_50 : decode cX12_unit 50 = .ok (.if_icmp .ne 28, 3) := by decide +kernel
theorem dX12_unit_53 : decode cX12_unit 53 = .ok (.aload_n 0, 1) := by decide +kernel
theorem dX12_unit_54 : decode cX12_unit 54 = .ok (.invokevirtual 138, 3) := by decide +kernel
theorem dX12_unit_57 : decode cX12_unit 57 = .ok (.aload_n 0, 1) := by decide +kernel
theorem dX12_unit_58 : decode cX12_unit 58 = .ok (.getfield 108, 3) := by decide +kernel
theorem dX12_unit_61 : decode cX12_unit 61 = .ok (.iconst (-1), 1) := by decide +kernel
theorem dX12_unit_62 : decode cX12_unit 62 = .ok (.if_icmp .ne 32, 3) := by decide +kernel
theorem dX12_unit_65 : decode cX12_unit 65 = .ok (.aload_n 0, 1) := by decide +kernel
theorem dX12_unit_66 : decode cX12_unit 66 = .ok (.invokevirtual 160, 3) := by decide +kernel
theorem dX12_unit_69 : decode cX12_unit 69 = .ok (.aload_n 0, 1) := by decide +kernel
theorem dX12_unit_70 : decode cX12_unit 70 = .ok (.bipush 41, 2) := by decide +kernel
theorem dX12_unit_72 : decode cX12_unit 72 = .ok (.invokevirtual 144, 3) := by decide +kernel
theorem dX12_unit_75 : decode cX12_unit 75 = .ok (.goto 19, 3) := by decide +kernel
theorem dX12_unit_78 : decode cX12_unit 78 = .ok (.aload_n 0, 1) := by decide +kernel
theorem dX12_unit_79 : decode cX12_unit 79 = .ok (.invokevirtual 141, 3) := by decide +kernel
theorem dX12_unit_82 : decode cX12_unit 82 = .ok (.aload_n 0, 1) := by decide +kernel
theorem dX12_unit_83 : decode cX12_unit 83 = .ok (.getfield 108, 3) := by decide +kernel
theorem dX12_unit_86 : decode cX12_unit 86 = .ok (.iconst (-1), 1) := by decide +kernel
theorem dX12_unit_87 : decode cX12_unit 87 = .ok (.if_icmp .ne 7, 3) := by decide +kernel
theorem dX12_unit_90 : decode cX12_unit 90 = .ok (.aload_n 0, 1) := by decide +kernel
theorem dX12_unit_91 : decode cX12_unit 91 = .ok (.invokevirtual 163, 3) := by decide +kernel
theorem dX12_unit_94 : decode cX12_unit 94 = .ok (.return_, 1) := by decide +kernel
theorem dX12_goOnAnd_0 : decode cX12_goOnAnd 0 = .ok (.aload_n 0, 1) := by decide +kernel
theorem dX12_goOnAnd_1 : decode cX12_goOnAnd 1 = .ok (.getfield 108, 3) := by decide +kernel
theorem dX12_goOnAnd_4 : decode cX12_goOnAnd 4 = .ok (.iconst (-1), 1) := by decide +kernel
theorem dX12_goOnAnd_5 : decode cX12_goOnAnd 5 = .ok (.if_icmp .ne 36, 3) := by decide +kernel
theorem dX12_goOnAnd_8 : decode cX12_goOnAnd 8 = .ok (.aload_n 0, 1) := by decide +kernel
theorem dX12_goOnAnd_9 : decode cX12_goOnAnd 9 = .ok (.invokevirtual 120, 3) := by decide +kernel
theorem dX12_goOnAnd_12 : decode cX12_goOnAnd 12 = .ok (.bipush 38, 2) := by decide +kernel
theorem dX12_goOnAnd_14 : decode cX12_goOnAnd 14 = .ok (.if_icmp .ne 27, 3) := by decide +kernel
theorem dX12_goOnAnd_17 : decode cX12_goOnAnd 17 = .ok (.aload_n 0, 1) := by decide +kernel
theorem dX12_goOnAnd_18 : decode cX12_goOnAnd 18 = .ok (.dup, 1) := by decide +kernel
theorem dX12_goOnAnd_19 : decode cX12_goOnAnd 19 = .ok (.getfield 101, 3) := by decide +kernel
theorem dX12_goOnAnd_22 : decode cX12_goOnAnd 22 = .ok (.iconst 1, 1) := by decide +kernel
theorem dX12_goOnAnd_23 : decode cX12_goOnAnd 23 = .ok (.iadd, 1) := by decide +kernel
theorem dX12_goOnAnd_24 : decode cX12_goOnAnd 24 = .ok (.putfield 101, 3) := by decide +kernel
theorem dX12_goOnAnd_27 : decode cX12_goOnAnd 27 = .ok (.aload_n 0, 1) := by decide +kernel
theorem dX12_goOnAnd_28 : decode cX12_goOnAnd 28 = .ok (.invokevirtual 157, 3) := by decide +kernel
theorem dX12_goOnAnd_31 : decode cX12_goOnAnd 31 = .ok (.aload_n 0, 1) := by decide +kernel
theorem dX12_goOnAnd_32 : decode cX12_goOnAnd 32 = .ok (.bipush 10, 2) := by decide +kernel
theorem dX12_goOnAnd_34 : decode cX12_goOnAnd 34 = .ok (.iconst 0, 1) := by decide +kernel
theorem dX12_goOnAnd_35 : decode cX12_goOnAnd 35 = .ok (.invokevirtual 130, 3) := by decide +kernel
theorem dX12_goOnAnd_38 : decode cX12_goOnAnd 38 = .ok (.goto (-38), 3) := by decide +kernel
theorem dX12_goOnAnd_41 : decode cX12_goOnAnd 41 = .ok (.return_, 1) := by decide +kernel
theorem dX12_goOnOr_0 : decode cX12_goOnOr 0 = .ok (.aload_n 0, 1) := by decide +kernel
theorem dX12_goOnOr_1 : decode cX12_goOnOr 1 = .ok (.getfield 108, 3) := by decide +kernel
theorem dX12_goOnOr_4 : decode cX12_goOnOr 4 = .ok (.iconst (-1), 1) := by decide +kernel
theorem dX12_goOnOr_5 : decode cX12_goOnOr 5 = .ok (.if_icmp .ne 40, 3) := by decide +kernel
theorem dX12_goOnOr_8 : decode cX12_goOnOr 8 = .ok (.aload_n 0, 1) := by decide +kernel
theorem dX12_goOnOr_9 : decode cX12_goOnOr 9 = .ok (.invokevirtual 120, 3) := by decide +kernel
theorem dX12_goOnOr_12 : decode cX12_goOnOr 12 = .ok (.bipush 124, 2) := by decide +kernel
theorem dX12_goOnOr_14 : decode cX12_goOnOr 14 = .ok (.if_icmp .ne 31, 3) := by decide +kernel
theorem dX12_goOnOr_17 : decode cX12_goOnOr 17 = .ok (.aload_n 0, 1) := by decide +kernel
theorem dX12_goOnOr_18 : decode cX12_goOnOr 18 = .ok (.dup, 1) := by decide +kernel
theorem dX12_goOnOr_19 : decode cX12_goOnOr 19 = .ok (.getfield 101, 3) := by decide +kernel
theorem dX12_goOnOr_22 : decode cX12_goOnOr 22 = .ok (.iconst 1, 1) := by decide +kernel
theorem dX12_goOnOr_23 : decode cX12_goOnOr 23 = .ok (.iadd, 1) := by decide +kernel
theorem dX12_goOnOr_24 : decode cX12_goOnOr 24 = .ok (.putfield 101, 3) := by decide +kernel
theorem dX12_goOnOr_27 : decode cX12_goOnOr 27 = .ok (.aload_n 0, 1) := by decide +kernel
theorem dX12_goOnOr_28 : decode cX12_goOnOr 28 = .ok (.invokevirtual 157, 3) := by decide +kernel
theorem dX12_goOnOr_31 : decode cX12_goOnOr 31 = .ok (.aload_n 0, 1) := by decide +kernel
theorem dX12_goOnOr_32 : decode cX12_goOnOr 32 = .ok (.invokevirtual 166, 3) := by decide +kernel
theorem dX12_goOnOr_35 : decode cX12_goOnOr 35 = .ok (.aload_n 0, 1) := by decide +kernel
theorem dX12_goOnOr_36 : decode cX12_goOnOr 36 = .ok (.bipush 11, 2) := by decide +kernel
theorem dX12_goOnOr_38 : decode cX12_goOnOr 38 = .ok (.iconst 0, 1) := by decide +kernel
theorem dX12_goOnOr_39 : decode cX12_goOnOr 39 = .ok (.invokevirtual 130, 3) := by decide +kernel
theorem dX12_goOnOr_42 : decode cX12_goOnOr 42 = .ok (.goto (-42), 3) := by decide +kernel
theorem dX12_goOnOr_45 : decode cX12_goOnOr 45 = .ok (.return_, 1) := by decide +kernel
theorem dX12_condition_0 : decode cX12_condition 0 = .ok (.aload_n 0, 1) := by decide +kernel
theorem dX12_condition_1 : decode cX12_condition 1 = .ok (.invokevirtual 157, 3) := by decide +kernel
theorem dX12_condition_4 : decode cX12_condition 4 = .ok (.aload_n 0, 1) := by decide +kernel
theorem dX12_condition_5 : decode cX12_condition 5 = .ok (.invokevirtual 166, 3) := by decide +kernel
theorem dX12_condition_8 : decode cX12_condition 8 = .ok (.aload_n 0, 1) := by decide +kernel
theorem dX12_condition_9 : decode cX12_condition 9 = .ok (.invokevirtual 169, 3) := by decide +kernel
theorem dX12_condition_12 : decode cX12_condition 12 = .ok (.return_, 1) := by decide +kernel
theorem dX12_clause_0 : decode cX12_clause 0 = .ok (.sipush 140, 3) := by decide +kernel
theorem dX12_clause_3 : decode cX12_clause 3 = .ok (.aload_n 0, 1) := by decide +kernel
theorem dX12_clause_4 : decode cX12_clause 4 = .ok (.getfield 111, 3) := by decide +kernel
theorem dX12_clause_7 : decode cX12_clause 7 = .ok (.imul, 1) := by decide +kernel
theorem dX12_clause_8 : decode cX12_clause 8 = .ok (.aload_n 0, 1) := by decide +kernel
theorem dX12_clause_9 : decode cX12_clause 9 = .ok (.getfield 22, 3) := by decide +kernel
theorem dX12_clause_12 : decode cX12_clause 12 = .ok (.aload_n 0, 1) := by decide +kernel
theorem dX12_clause_13 : decode cX12_clause 13 = .ok (.getfield 111, 3) := by decide +kernel
theorem dX12_clause_16 : decode cX12_clause 16 = .ok (.iaload, 1) := by decide +kernel
theorem dX12_clause_17 : decode cX12_clause 17 = .ok (.iadd, 1) := by decide +kernel
theorem dX12_clause_18 : decode cX12_clause 18 = .ok (.istore_n 1, 1) := by decide +kernel
theorem dX12_clause_19 : decode cX12_clause 19 = .ok (.aload_n 0, 1) := by decide +kernel
theorem dX12_clause_20 : decode cX12_clause 20 = .ok (.getfield 108, 3) := by decide +kernel
theorem dX12_clause_23 : decode cX12_clause 23 = .ok (.iconst (-1), 1) := by decide +kernel
theorem dX12_clause_24 : decode cX12_clause 24 = .ok (.if_icmp .ne 16, 3) := by decide +kernel
theorem dX12_clause_27 : decode cX12_clause 27 = .ok (.aload_n 0, 1) := by decide +kernel
theorem dX12_clause_28 : decode cX12_clause 28 = .ok (.invokevirtual 120, 3) := by decide +kernel
theorem dX12_clause_31 : decode cX12_clause 31 = .ok (.bipush 121, 2) := by decide +kernel
theorem dX12_clause_33 : decode cX12_clause 33 = .ok (.if_icmp .eq 7, 3) := by decide +kernel
theorem dX12_clause_36 : decode cX12_clause 36 = .ok (.aload_n 0, 1) := by decide +kernel
theorem dX12_clause_37 : decode cX12_clause 37 = .ok (.invokevirtual 117, 3) := by decide +kernel
theorem dX12_clause_40 : decode cX12_clause 40 = .ok (.aload_n 0, 1) := by decide +kernel
theorem dX12_clause_41 : decode cX12_clause 41 = .ok (.dup, 1) := by decide +kernel
theorem dX12_clause_42 : decode cX12_clause 42 = .ok (.getfield 101, 3) := by decide +kernel
theorem dX12_clause_45 : decode cX12_clause 45 = .ok (.iconst 1, 1) := by decide +kernel
theorem dX12_clause_46 : decode cX12_clause 46 = .ok (.iadd, 1) := by decide +kernel
theorem dX12_clause_47 : decode cX12_clause 47 = .ok (.putfield 101, 3) := by decide +kernel
theorem dX12_clause_50 : decode cX12_clause 50 = .ok (.aload_n 0, 1) := by decide +kernel
theorem dX12_clause_51 : decode cX12_clause 51 = .ok (.getfield 108, 3) := by decide +kernel
theorem dX12_clause_54 : decode cX12_clause 54 = .ok (.iconst (-1), 1) := by decide +kernel
theorem dX12_clause_55 : decode cX12_clause 55 = .ok (.if_icmp .ne 16, 3) := by decide +kernel
theorem dX12_clause_58 : decode cX12_clause 58 = .ok (.aload_n 0, 1) := by decide +kernel
theorem dX12_clause_59 : decode cX12_clause 59 = .ok (.invokevirtual 120, 3) := by decide +kernel
theorem dX12_clause_62 : decode cX12_clause 62 = .ok (.bipush 58, 2) := by decide +kernel
theorem dX12_clause_64 : decode cX12_clause 64 = .ok (.if_icmp .eq 7, 3) := by decide +kernel
theorem dX12_clause_67 : decode cX12_clause 67 = .ok (.aload_n 0, 1) := by decide +kernel
theorem dX12_clause_68 : decode cX12_clause 68 = .ok (.invokevirtual 117, 3) := by decide +kernel
theorem dX12_clause_71 : decode cX12_clause 71 = .ok (.aload_n 0, 1) := by decide +kernel
theorem dX12_clause_72 : decode cX12_clause 72 = .ok (.dup, 1) := by decide +kernel
theorem dX12_clause_73 : decode cX12_clause 73 = .ok (.getfield 101, 3) := by decide +kernel
theorem dX12_clause_76 : decode cX12_clause 76 = .ok (.iconst 1, 1) := by decide +kernel
theorem dX12_clause_77 : decode cX12_clause 77 = .ok (.iadd, 1) := by decide +kernel
theorem dX12_clause_78 : decode cX12_clause 78 = .ok (.putfield 101, 3) := by decide +kernel
theorem dX12_clause_81 : decode cX12_clause 81 = .ok (.aload_n 0, 1) := by decide +kernel
theorem dX12_clause_82 : decode cX12_clause 82 = .ok (.getfield 108, 3) := by decide +kernel
theorem dX12_clause_85 : decode cX12_clause 85 = .ok (.iconst (-1), 1) := by decide +kernel
theorem dX12_clause_86 : decode cX12_clause 86 = .ok (.if_icmp .eq 4, 3) := by decide +kernel
theorem dX12_clause_89 : decode cX12_clause 89 = .ok (.return_, 1) := by decide +kernel
theorem dX12_clause_90 : decode cX12_clause 90 = .ok (.aload_n 0, 1) := by decide +kernel
theorem dX12_clause_91 : decode cX12_clause 91 = .ok (.getfield 25, 3) := by decide +kernel
theorem dX12_clause_94 : decode cX12_clause 94 = .ok (.iload_n 1, 1) := by decide +kernel
theorem dX12_clause_95 : decode cX12_clause 95 = .ok (.aload_n 0, 1) := by decide +kernel
theorem dX12_clause_96 : decode cX12_clause 96 = .ok (.getfield 19, 3) := by decide +kernel
theorem dX12_clause_99 : decode cX12_clause 99 = .ok (.aload_n 0, 1) := by decide +kernel
theorem dX12_clause_100 : decode cX12_clause 100 = .ok (.getfield 111, 3) := by decide +kernel
theorem dX12_clause_103 : decode cX12_clause 103 = .ok (.iaload, 1) := by decide +kernel
theorem dX12_clause_104 : decode cX12_clause 104 = .ok (.iastore, 1) := by decide +kernel
theorem dX12_clause_105 : decode cX12_clause 105 = .ok (.aload_n 0, 1) := by decide +kernel
theorem dX12_clause_106 : decode cX12_clause 106 = .ok (.invokevirtual 120, 3) := by decide +kernel
theorem dX12_clause_109 : decode cX12_clause 109 = .ok (.bipush 33, 2) := by decide +kernel
theorem dX12_clause_111 : decode cX12_clause 111 = .ok (.if_icmp .eq 12, 3) := by decide +kernel
theorem dX12_clause_114 : decode cX12_clause 114 = .ok (.aload_n 0, 1) := by decide +kernel
theorem dX12_clause_115 : decode cX12_clause 115 = .ok (.invokevirtual 120, 3) := by decide +kernel
theorem dX12_clause_118 : decode cX12_clause 118 = .ok (.bipush 40, 2) := by decide +kernel
theorem dX12_clause_120 : decode cX12_clause 120 = .ok (.if_icmp .ne 7, 3) := by decide +kernel
theorem dX12_clause_123 : decode cX12_clause 123 = .ok (.iconst 1, 1) := by decide +kernel
theorem dX12_clause_124 : decode cX12_clause 124 = .ok (.goto 4, 3) := by decide +kernel
theorem dX12_clause_127 : decode cX12_clause 127 = .ok (.iconst 0, 1) := by decide +kernel
theorem dX12_clause_128 : decode cX12_clause 128 = .ok (.istore_n 2, 1) := by decide +kernel
theorem dX12_clause_129 : decode cX12_clause 129 = .ok (.iload_n 2, 1) := by decide +kernel
theorem dX12_clause_130 : decode cX12_clause 130 = .ok (.ifCond .eq 10, 3) := by decide +kernel
theorem dX12_clause_133 : decode cX12_clause 133 = .ok (.aload_n 0, 1) := by decide +kernel
theorem dX12_clause_134 : decode cX12_clause 134 = .ok (.invokevirtual 160, 3) := by decide +kernel
theorem dX12_clause_137 : decode cX12_clause 137 = .ok (.goto 47, 3) := by decide +kernel
theorem dX12_clause_140 : decode cX12_clause 140 = .ok (.aload_n 0, 1) := by decide +kernel
theorem dX12_clause_141 : decode cX12_clause 141 = .ok (.invokevirtual 141, 3) := by decide +kernel
theorem dX12_clause_144 : decode cX12_clause 144 = .ok (.aload_n 0, 1) := by decide +kernel
theorem dX12_clause_145 : decode cX12_clause 145 = .ok (.getfield 108, 3) := by decide +kernel
theorem dX12_clause_148 : decode cX12_clause 148 = .ok (.iconst (-1), 1) := by decide +kernel
theorem dX12_clause_149 : decode cX12_clause 149 = .ok (.if_icmp .ne 17, 3) := by decide +kernel
theorem dX12_clause_152 : decode cX12_clause 152 = .ok (.aload_n 0, 1) := by decide +kernel
theorem dX12_clause_153 : decode cX12_clause 153 = .ok (.invokevirtual 120, 3) := by decide +kernel
theorem dX12_clause_156 : decode cX12_clause 156 = .ok (.invokestatic 154, 3) := by decide +kernel
theorem dX12_clause_159 : decode cX12_clause 159 = .ok (.ifCond .eq 7, 3) := by decide +kernel
theorem dX12_clause_162 : decode cX12_clause 162 = .ok (.iconst 1, 1) := by decide +kernel
theorem dX12_clause_163 : decode cX12_clause 163 = .ok (.goto 4, 3) := by decide +kernel
theorem dX12_clause_166 : decode cX12_clause 166 = .ok (.iconst 0, 1) := by decide +kernel
theorem dX12_clause_167 : decode cX12_clause 167 = .ok (.istore_n 2, 1) := by decide +kernel
theorem dX12_clause_168 : decode cX12_clause 168 = .ok (.iload_n 2, 1) := by decide +kernel
theorem dX12_clause_169 : decode cX12_clause 169 = .ok (.ifCond .eq 15, 3) := by decide +kernel
theorem dX12_clause_172 : decode cX12_clause 172 = .ok (.aload_n 0, 1) := by decide +kernel
theorem dX12_clause_173 : decode cX12_clause 173 = .ok (.invokevirtual 163, 3) := by decide +kernel
theorem dX12_clause_176 : decode cX12_clause 176 = .ok (.aload_n 0, 1) := by decide +kernel
theorem dX12_clause_177 : decode cX12_clause 177 = .ok (.invokevirtual 166, 3) := by decide +kernel
theorem dX12_clause_180 : decode cX12_clause 180 = .ok (.aload_n 0, 1) := by decide +kernel
theorem dX12_clause_181 : decode cX12_clause 181 = .ok (.invokevirtual 169, 3) := by decide +kernel
theorem dX12_clause_184 : decode cX12_clause 184 = .ok (.aload_n 0, 1) := by decide +kernel
theorem dX12_clause_185 : decode cX12_clause 185 = .ok (.getfield 28, 3) := by decide +kernel
theorem dX12_clause_188 : decode cX12_clause 188 = .ok (.iload_n 1, 1) := by decide +kernel
theorem dX12_clause_189 : decode cX12_clause 189 = .ok (.aload_n 0, 1) := by decide +kernel
theorem dX12_clause_190 : decode cX12_clause 190 = .ok (.getfield 25, 3) := by decide +kernel
theorem dX12_clause_193 : decode cX12_clause 193 = .ok (.iload_n 1, 1) := by decide +kernel
theorem dX12_clause_194 : decode cX12_clause 194 = .ok (.iaload, 1) := by decide +kernel
theorem dX12_clause_195 : decode cX12_clause 195 = .ok (.iastore, 1) := by decide +kernel
theorem dX12_clause_196 : decode cX12_clause 196 = .ok (.iload_n 2, 1) := by decide +kernel
theorem dX12_clause_197 : decode cX12_clause 197 = .ok (.ifCond .eq 54, 3) := by decide +kernel
theorem dX12_clause_200 : decode cX12_clause 200 = .ok (.aload_n 0, 1) := by decide +kernel
theorem dX12_clause_201 : decode cX12_clause 201 = .ok (.getfield 108, 3) := by decide +kernel
theorem dX12_clause_204 : decode cX12_clause 204 = .ok (.iconst (-1), 1) := by decide +kernel
theorem dX12_clause_205 : decode cX12_clause 205 = .ok (.if_icmp .ne 46, 3) := by decide +kernel
theorem dX12_clause_208 : decode cX12_clause 208 = .ok (.aload_n 0, 1) := by decide +kernel
theorem dX12_clause_209 : decode cX12_clause 209 = .ok (.invokevirtual 120, 3) := by decide +kernel
theorem dX12_clause_212 : decode cX12_clause 212 = .ok (.bipush 63, 2) := by decide +kernel
theorem dX12_clause_214 : decode cX12_clause 214 = .ok (.if_icmp .eq 8, 3) := by decide +kernel
theorem dX12_clause_217 : decode cX12_clause 217 = .ok (.aload_n 0, 1) := by decide +kernel
theorem dX12_clause_218 : decode cX12_clause 218 = .ok (.invokevirtual 117, 3) := by decide +kernel
theorem dX12_clause_221 : decode cX12_clause 221 = .ok (.return_, 1) := by decide +kernel
theorem dX12_clause_222 : decode cX12_clause 222 = .ok (.aload_n 0, 1) := by decide +kernel
theorem dX12_clause_223 : decode cX12_clause 223 = .ok (.dup, 1) := by decide +kernel
theorem dX12_clause_224 : decode cX12_clause 224 = .ok (.getfield 101, 3) := by decide +kernel
theorem dX12_clause_227 : decode cX12_clause 227 = .ok (.iconst 1, 1) := by decide +kernel
theorem dX12_clause_228 : decode cX12_clause 228 = .ok (.iadd, 1) := by decide +kernel
theorem dX12_clause_229 : decode cX12_clause 229 = .ok (.putfield 101, 3) := by decide +kernel
theorem dX12_clause_232 : decode cX12_clause 232 = .ok (.aload_n 0, 1) := by decide +kernel
theorem dX12_clause_233 : decode cX12_clause 233 = .ok (.getfield 28, 3) := by decide +kernel
theorem dX12_clause_236 : decode cX12_clause 236 = .ok (.iload_n 1, 1) := by decide +kernel
theorem dX12_clause_237 : decode cX12_clause 237 = .ok (.aload_n 0, 1) := by decide +kernel
theorem dX12_clause_238 : decode cX12_clause 238 = .ok (.getfield 19, 3) := by decide +kernel
theorem dX12_clause_241 : decode cX12_clause 241 = .ok (.aload_n 0, 1) := by decide +kernel
theorem dX12_clause_242 : decode cX12_clause 242 = .ok (.getfield 111, 3) := by decide +kernel
theorem dX12_clause_245 : decode cX12_clause 245 = .ok (.iaload, 1) := by decide +kernel
theorem dX12_clause_246 : decode cX12_clause 246 = .ok (.iastore, 1) := by decide +kernel
theorem dX12_clause_247 : decode cX12_clause 247 = .ok (.aload_n 0, 1) := by decide +kernel
theorem dX12_clause_248 : decode cX12_clause 248 = .ok (.invokevirtual 141, 3) := by decide +kernel
theorem dX12_clause_251 : decode cX12_clause 251 = .ok (.aload_n 0, 1) := by decide +kernel
theorem dX12_clause_252 : decode cX12_clause 252 = .ok (.getfield 31, 3) := by decide +kernel
theorem dX12_clause_255 : decode cX12_clause 255 = .ok (.iload_n 1, 1) := by decide +kernel
theorem dX12_clause_256 : decode cX12_clause 256 = .ok (.aload_n 0, 1) := by decide +kernel
theorem dX12_clause_257 : decode cX12_clause 257 = .ok (.getfield 19, 3) := by decide +kernel
theorem dX12_clause_260 : decode cX12_clause 260 = .ok (.aload_n 0, 1) := by decide +kernel
theorem dX12_clause_261 : decode cX12_clause 261 = .ok (.getfield 111, 3) := by decide +kernel
theorem dX12_clause_264 : decode cX12_clause 264 = .ok (.iaload, 1) := by decide +kernel
theorem dX12_clause_265 : decode cX12_clause 265 = .ok (.iastore, 1) := by decide +kernel
theorem dX12_clause_266 : decode cX12_clause 266 = .ok (.aload_n 0, 1) := by decide +kernel
theorem dX12_clause_267 : decode cX12_clause 267 = .ok (.getfield 22, 3) := by decide +kernel
theorem dX12_clause_270 : decode cX12_clause 270 = .ok (.aload_n 0, 1) := by decide +kernel
theorem dX12_clause_271 : decode cX12_clause 271 = .ok (.getfield 111, 3) := by decide +kernel
theorem dX12_clause_274 : decode cX12_clause 274 = .ok (.dup2, 1) := by decide +kernel
theorem dX12_clause_275 : decode cX12_clause 275 = .ok (.iaload, 1) := by decide +kernel
theorem dX12_clause_276 : decode cX12_clause 276 = .ok (.iconst 1, 1) := by decide +kernel
theorem dX12_clause_277 : decode cX12_clause 277 = .ok (.iadd, 1) := by decide +kernel
theorem dX12_clause_278 : decode cX12_clause 278 = .ok (.iastore, 1) := by decide +kernel
theorem dX12_clause_279 : decode cX12_clause 279 = .ok (.return_, 1) := by decide +kernel
theorem dX12_open_0 : decode cX12_open 0 = .ok (.aload_n 0, 1) := by decide +kernel
theorem dX12_open_1 : decode cX12_open 1 = .ok (.iload_n 1, 1) := by decide +kernel
theorem dX12_open_2 : decode cX12_open 2 = .ok (.putfield 111, 3) := by decide +kernel
theorem dX12_open_5 : decode cX12_open 5 = .ok (.aload_n 0, 1) := by decide +kernel
theorem dX12_open_6 : decode cX12_open 6 = .ok (.iconst 0, 1) := by decide +kernel
theorem dX12_open_7 : decode cX12_open 7 = .ok (.putfield 101, 3) := by decide +kernel
theorem dX12_open_10 : decode cX12_open 10 = .ok (.aload_n 0, 1) := by decide +kernel
theorem dX12_open_11 : decode cX12_open 11 = .ok (.iconst (-1), 1) := by decide +kernel
theorem dX12_open_12 : decode cX12_open 12 = .ok (.putfield 108, 3) := by decide +kernel
theorem dX12_open_15 : decode cX12_open 15 = .ok (.aload_n 0, 1) := by decide +kernel
theorem dX12_open_16 : decode cX12_open 16 = .ok (.iconst 0, 1) := by decide +kernel
theorem dX12_open_17 : decode cX12_open 17 = .ok (.putfield 114, 3) := by decide +kernel
theorem dX12_open_20 : decode cX12_open 20 = .ok (.aload_n 0, 1) := by decide +kernel
theorem dX12_open_21 : decode cX12_open 21 = .ok (.getfield 19, 3) := by decide +kernel
theorem dX12_open_24 : decode cX12_open 24 = .ok (.iload_n 1, 1) := by decide +kernel
theorem dX12_open_25 : decode cX12_open 25 = .ok (.iconst 0, 1) := by decide +kernel
theorem dX12_open_26 : decode cX12_open 26 = .ok (.iastore, 1) := by decide +kernel
theorem dX12_open_27 : decode cX12_open 27 = .ok (.aload_n 0, 1) := by decide +kernel
theorem dX12_open_28 : decode cX12_open 28 = .ok (.getfield 22, 3) := by decide +kernel
theorem dX12_open_31 : decode cX12_open 31 = .ok (.iload_n 1, 1) := by decide +kernel
theorem dX12_open_32 : decode cX12_open 32 = .ok (.iconst 0, 1) := by decide +kernel
theorem dX12_open_33 : decode cX12_open 33 = .ok (.iastore, 1) := by decide +kernel
theorem dX12_open_34 : decode cX12_open 34 = .ok (.return_, 1) := by decide +kernel
theorem dX12_atEnd_0 : decode cX12_atEnd 0 = .ok (.aload_n 0, 1) := by decide +kernel
theorem dX12_atEnd_1 : decode cX12_atEnd 1 = .ok (.getfield 108, 3) := by decide +kernel
theorem dX12_atEnd_4 : decode cX12_atEnd 4 = .ok (.iconst (-1), 1) := by decide +kernel
theorem dX12_atEnd_5 : decode cX12_atEnd 5 = .ok (.if_icmp .ne 15, 3) := by decide +kernel
theorem dX12_atEnd_8 : decode cX12_atEnd 8 = .ok (.aload_n 0, 1) := by decide +kernel
theorem dX12_atEnd_9 : decode cX12_atEnd 9 = .ok (.invokevirtual 120, 3) := by decide +kernel
theorem dX12_atEnd_12 : decode cX12_atEnd 12 = .ok (.iconst (-1), 1) := by decide +kernel
theorem dX12_atEnd_13 : decode cX12_atEnd 13 = .ok (.if_icmp .eq 7, 3) := by decide +kernel
theorem dX12_atEnd_16 : decode cX12_atEnd 16 = .ok (.aload_n 0, 1) := by decide +kernel
theorem dX12_atEnd_17 : decode cX12_atEnd 17 = .ok (.invokevirtual 117, 3) := by decide +kernel
theorem dX12_atEnd_20 : decode cX12_atEnd 20 = .ok (.aload_n 0, 1) := by decide +kernel
theorem dX12_atEnd_21 : decode cX12_atEnd 21 = .ok (.getfield 108, 3) := by decide +kernel
theorem dX12_atEnd_24 : decode cX12_atEnd 24 = .ok (.ireturn, 1) := by decide +kernel
theorem dX12_readLaw_0 : decode cX12_readLaw 0 = .ok (.aload_n 0, 1) := by decide +kernel
theorem dX12_readLaw_1 : decode cX12_readLaw 1 = .ok (.iload_n 1, 1) := by decide +kernel
theorem dX12_readLaw_2 : decode cX12_readLaw 2 = .ok (.invokevirtual 172, 3) := by decide +kernel
theorem dX12_readLaw_5 : decode cX12_readLaw 5 = .ok (.aload_n 0, 1) := by decide +kernel
theorem dX12_readLaw_6 : decode cX12_readLaw 6 = .ok (.invokevirtual 175, 3) := by decide +kernel
theorem dX12_readLaw_9 : decode cX12_readLaw 9 = .ok (.aload_n 0, 1) := by decide +kernel
theorem dX12_readLaw_10 : decode cX12_readLaw 10 = .ok (.getfield 108, 3) := by decide +kernel
theorem dX12_readLaw_13 : decode cX12_readLaw 13 = .ok (.iconst (-1), 1) := by decide +kernel
theorem dX12_readLaw_14 : decode cX12_readLaw 14 = .ok (.if_icmp .ne 29, 3) := by decide +kernel
theorem dX12_readLaw_17 : decode cX12_readLaw 17 = .ok (.aload_n 0, 1) := by decide +kernel
theorem dX12_readLaw_18 : decode cX12_readLaw 18 = .ok (.invokevirtual 120, 3) := by decide +kernel
theorem dX12_readLaw_21 : decode cX12_readLaw 21 = .ok (.bipush 59, 2) := by decide +kernel
theorem dX12_readLaw_23 : decode cX12_readLaw 23 = .ok (.if_icmp .ne 20, 3) := by decide +kernel
theorem dX12_readLaw_26 : decode cX12_readLaw 26 = .ok (.aload_n 0, 1) := by decide +kernel
theorem dX12_readLaw_27 : decode cX12_readLaw 27 = .ok (.dup, 1) := by decide +kernel
theorem dX12_readLaw_28 : decode cX12_readLaw 28 = .ok (.getfield 101, 3) := by decide +kernel
theorem dX12_readLaw_31 : decode cX12_readLaw 31 = .ok (.iconst 1, 1) := by decide +kernel
theorem dX12_readLaw_32 : decode cX12_readLaw 32 = .ok (.iadd, 1) := by decide +kernel
theorem dX12_readLaw_33 : decode cX12_readLaw 33 = .ok (.putfield 101, 3) := by decide +kernel
theorem dX12_readLaw_36 : decode cX12_readLaw 36 = .ok (.aload_n 0, 1) := by decide +kernel
theorem dX12_readLaw_37 : decode cX12_readLaw 37 = .ok (.invokevirtual 175, 3) := by decide +kernel
theorem dX12_readLaw_40 : decode cX12_readLaw 40 = .ok (.goto (-31), 3) := by decide +kernel
theorem dX12_readLaw_43 : decode cX12_readLaw 43 = .ok (.aload_n 0, 1) := by decide +kernel
theorem dX12_readLaw_44 : decode cX12_readLaw 44 = .ok (.invokevirtual 178, 3) := by decide +kernel
theorem dX12_readLaw_47 : decode cX12_readLaw 47 = .ok (.ireturn, 1) := by decide +kernel
theorem dX12_bounded_0 : decode cX12_bounded 0 = .ok (.ldc2_w 181, 3) := by decide +kernel
theorem dX12_bounded_3 : decode cX12_bounded 3 = .ok (.ldc2_w 183, 3) := by decide +kernel
theorem dX12_bounded_6 : decode cX12_bounded 6 = .ok (.lload_n 0, 1) := by decide +kernel
theorem dX12_bounded_7 : decode cX12_bounded 7 = .ok (.invokestatic 185, 3) := by decide +kernel
theorem dX12_bounded_10 : decode cX12_bounded 10 = .ok (.invokestatic 191, 3) := by decide +kernel
theorem dX12_bounded_13 : decode cX12_bounded 13 = .ok (.l2i, 1) := by decide +kernel
theorem dX12_bounded_14 : decode cX12_bounded 14 = .ok (.ireturn, 1) := by decide +kernel
theorem dX12_worked_0 : decode cX12_worked 0 = .ok (.iload_n 0, 1) := by decide +kernel
theorem dX12_worked_1 : decode cX12_worked 1 = .ok (.tableswitch 143 2 10 #[51, 58, 65, 72, 89, 101, 113, 143, 125], 51) := by decide +kernel
theorem dX12_worked_52 : decode cX12_worked 52 = .ok (.lload_n 1, 1) := by decide +kernel
theorem dX12_worked_53 : decode cX12_worked 53 = .ok (.lload_n 3, 1) := by decide +kernel
theorem dX12_worked_54 : decode cX12_worked 54 = .ok (.ladd, 1) := by decide +kernel
theorem dX12_worked_55 : decode cX12_worked 55 = .ok (.invokestatic 194, 3) := by decide +kernel
theorem dX12_worked_58 : decode cX12_worked 58 = .ok (.ireturn, 1) := by decide +kernel
theorem dX12_worked_59 : decode cX12_worked 59 = .ok (.lload_n 1, 1) := by decide +kernel
theorem dX12_worked_60 : decode cX12_worked 60 = .ok (.lload_n 3, 1) := by decide +kernel
theorem dX12_worked_61 : decode cX12_worked 61 = .ok (.lsub, 1) := by decide +kernel
theorem dX12_worked_62 : decode cX12_worked 62 = .ok (.invokestatic 194, 3) := by decide +kernel
theorem dX12_worked_65 : decode cX12_worked 65 = .ok (.ireturn, 1) := by decide +kernel
theorem dX12_worked_66 : decode cX12_worked 66 = .ok (.lload_n 1, 1) := by decide +kernel
theorem dX12_worked_67 : decode cX12_worked 67 = .ok (.lload_n 3, 1) := by decide +kernel
theorem dX12_worked_68 : decode cX12_worked 68 = .ok (.lmul, 1) := by decide +kernel
theorem dX12_worked_69 : decode cX12_worked 69 = .ok (.invokestatic 194, 3) := by decide +kernel
theorem dX12_worked_72 : decode cX12_worked 72 = .ok (.ireturn, 1) := by decide +kernel
theorem dX12_worked_73 : decode cX12_worked 73 = .ok (.lload_n 3, 1) := by decide +kernel
theorem dX12_worked_74 : decode cX12_worked 74 = .ok (.lconst 0, 1) := by decide +kernel
theorem dX12_worked_75 : decode cX12_worked 75 = .ok (.lcmp, 1) := by decide +kernel
theorem dX12_worked_76 : decode cX12_worked 76 = .ok (.ifCond .ne 7, 3) := by decide +kernel
theorem dX12_worked_79 : decode cX12_worked 79 = .ok (.iconst 0, 1) := by decide +kernel
theorem dX12_worked_80 : decode cX12_worked 80 = .ok (.goto 9, 3) := by decide +kernel
theorem dX12_worked_83 : decode cX12_worked 83 = .ok (.lload_n 1, 1) := by decide +kernel
theorem dX12_worked_84 : decode cX12_worked 84 = .ok (.lload_n 3, 1) := by decide +kernel
theorem dX12_worked_85 : decode cX12_worked 85 = .ok (.ldiv, 1) := by decide +kernel
theorem dX12_worked_86 : decode cX12_worked 86 = .ok (.invokestatic 194, 3) := by decide +kernel
theorem dX12_worked_89 : decode cX12_worked 89 = .ok (.ireturn, 1) := by decide +kernel
theorem dX12_worked_90 : decode cX12_worked 90 = .ok (.lload_n 1, 1) := by decide +kernel
theorem dX12_worked_91 : decode cX12_worked 91 = .ok (.lload_n 3, 1) := by decide +kernel
theorem dX12_worked_92 : decode cX12_worked 92 = .ok (.lcmp, 1) := by decide +kernel
theorem dX12_worked_93 : decode cX12_worked 93 = .ok (.ifCond .ne 7, 3) := by decide +kernel
theorem dX12_worked_96 : decode cX12_worked 96 = .ok (.iconst 1, 1) := by decide +kernel
theorem dX12_worked_97 : decode cX12_worked 97 = .ok (.goto 4, 3) := by decide +kernel
theorem dX12_worked_100 : decode cX12_worked 100 = .ok (.iconst 0, 1) := by decide +kernel
theorem dX12_worked_101 : decode cX12_worked 101 = .ok (.ireturn, 1) := by decide +kernel
theorem dX12_worked_102 : decode cX12_worked 102 = .ok (.lload_n 1, 1) := by decide +kernel
theorem dX12_worked_103 : decode cX12_worked 103 = .ok (.lload_n 3, 1) := by decide +kernel
theorem dX12_worked_104 : decode cX12_worked 104 = .ok (.lcmp, 1) := by decide +kernel
theorem dX12_worked_105 : decode cX12_worked 105 = .ok (.ifCond .ge 7, 3) := by decide +kernel
theorem dX12_worked_108 : decode cX12_worked 108 = .ok (.iconst 1, 1) := by decide +kernel
theorem dX12_worked_109 : decode cX12_worked 109 = .ok (.goto 4, 3) := by decide +kernel
theorem dX12_worked_112 : decode cX12_worked 112 = .ok (.iconst 0, 1) := by decide +kernel
theorem dX12_worked_113 : decode cX12_worked 113 = .ok (.ireturn, 1) := by decide +kernel
theorem dX12_worked_114 : decode cX12_worked 114 = .ok (.lload_n 1, 1) := by decide +kernel
theorem dX12_worked_115 : decode cX12_worked 115 = .ok (.lload_n 3, 1) := by decide +kernel
theorem dX12_worked_116 : decode cX12_worked 116 = .ok (.lcmp, 1) := by decide +kernel
theorem dX12_worked_117 : decode cX12_worked 117 = .ok (.ifCond .le 7, 3) := by decide +kernel
theorem dX12_worked_120 : decode cX12_worked 120 = .ok (.iconst 1, 1) := by decide +kernel
theorem dX12_worked_121 : decode cX12_worked 121 = .ok (.goto 4, 3) := by decide +kernel
theorem dX12_worked_124 : decode cX12_worked 124 = .ok (.iconst 0, 1) := by decide +kernel
theorem dX12_worked_125 : decode cX12_worked 125 = .ok (.ireturn, 1) := by decide +kernel
theorem dX12_worked_126 : decode cX12_worked 126 = .ok (.lload_n 1, 1) := by decide +kernel
theorem dX12_worked_127 : decode cX12_worked 127 = .ok (.lconst 0, 1) := by decide +kernel
theorem dX12_worked_128 : decode cX12_worked 128 = .ok (.lcmp, 1) := by decide +kernel
theorem dX12_worked_129 : decode cX12_worked 129 = .ok (.ifCond .eq 13, 3) := by decide +kernel
theorem dX12_worked_132 : decode cX12_worked 132 = .ok (.lload_n 3, 1) := by decide +kernel
theorem dX12_worked_133 : decode cX12_worked 133 = .ok (.lconst 0, 1) := by decide +kernel
theorem dX12_worked_134 : decode cX12_worked 134 = .ok (.lcmp, 1) := by decide +kernel
theorem dX12_worked_135 : decode cX12_worked 135 = .ok (.ifCond .eq 7, 3) := by decide +kernel
theorem dX12_worked_138 : decode cX12_worked 138 = .ok (.iconst 1, 1) := by decide +kernel
theorem dX12_worked_139 : decode cX12_worked 139 = .ok (.goto 4, 3) := by decide +kernel
theorem dX12_worked_142 : decode cX12_worked 142 = .ok (.iconst 0, 1) := by decide +kernel
theorem dX12_worked_143 : decode cX12_worked 143 = .ok (.ireturn, 1) := by decide +kernel
theorem dX12_worked_144 : decode cX12_worked 144 = .ok (.lload_n 1, 1) := by decide +kernel
theorem dX12_worked_145 : decode cX12_worked 145 = .ok (.lconst 0, 1) := by decide +kernel
theorem dX12_worked_146 : decode cX12_worked 146 = .ok (.lcmp, 1) := by decide +kernel
theorem dX12_worked_147 : decode cX12_worked 147 = .ok (.ifCond .ne 9, 3) := by decide +kernel
theorem dX12_worked_150 : decode cX12_worked 150 = .ok (.lload_n 3, 1) := by decide +kernel
theorem dX12_worked_151 : decode cX12_worked 151 = .ok (.lconst 0, 1) := by decide +kernel
theorem dX12_worked_152 : decode cX12_worked 152 = .ok (.lcmp, 1) := by decide +kernel
theorem dX12_worked_153 : decode cX12_worked 153 = .ok (.ifCond .eq 7, 3) := by decide +kernel
theorem dX12_worked_156 : decode cX12_worked 156 = .ok (.iconst 1, 1) := by decide +kernel
theorem dX12_worked_157 : decode cX12_worked 157 = .ok (.goto 4, 3) := by decide +kernel
theorem dX12_worked_160 : decode cX12_worked 160 = .ok (.iconst 0, 1) := by decide +kernel
theorem dX12_worked_161 : decode cX12_worked 161 = .ok (.ireturn, 1) := by decide +kernel
theorem dX12_workOut_0 : decode cX12_workOut 0 = .ok (.iconst 0, 1) := by decide +kernel
theorem dX12_workOut_1 : decode cX12_workOut 1 = .ok (.istore 4, 2) := by decide +kernel
theorem dX12_workOut_3 : decode cX12_workOut 3 = .ok (.sipush 520, 3) := by decide +kernel
theorem dX12_workOut_6 : decode cX12_workOut 6 = .ok (.iload_n 1, 1) := by decide +kernel
theorem dX12_workOut_7 : decode cX12_workOut 7 = .ok (.imul, 1) := by decide +kernel
theorem dX12_workOut_8 : decode cX12_workOut 8 = .ok (.iload_n 2, 1) := by decide +kernel
theorem dX12_workOut_9 : decode cX12_workOut 9 = .ok (.iadd, 1) := by decide +kernel
theorem dX12_workOut_10 : decode cX12_workOut 10 = .ok (.istore 5, 2) := by decide +kernel
theorem dX12_workOut_12 : decode cX12_workOut 12 = .ok (.iload 5, 2) := by decide +kernel
theorem dX12_workOut_14 : decode cX12_workOut 14 = .ok (.sipush 520, 3) := by decide +kernel
theorem dX12_workOut_17 : decode cX12_workOut 17 = .ok (.iload_n 1, 1) := by decide +kernel
theorem dX12_workOut_18 : decode cX12_workOut 18 = .ok (.imul, 1) := by decide +kernel
theorem dX12_workOut_19 : decode cX12_workOut 19 = .ok (.iload_n 3, 1) := by decide +kernel
theorem dX12_workOut_20 : decode cX12_workOut 20 = .ok (.iadd, 1) := by decide +kernel
theorem dX12_workOut_21 : decode cX12_workOut 21 = .ok (.if_icmp .ge 150, 3) := by decide +kernel
theorem dX12_workOut_24 : decode cX12_workOut 24 = .ok (.aload_n 0, 1) := by decide +kernel
theorem dX12_workOut_25 : decode cX12_workOut 25 = .ok (.getfield 13, 3) := by decide +kernel
theorem dX12_workOut_28 : decode cX12_workOut 28 = .ok (.iload 5, 2) := by decide +kernel
theorem dX12_workOut_30 : decode cX12_workOut 30 = .ok (.iaload, 1) := by decide +kernel
theorem dX12_workOut_31 : decode cX12_workOut 31 = .ok (.ifCond .eq 14, 3) := by decide +kernel
theorem dX12_workOut_34 : decode cX12_workOut 34 = .ok (.aload_n 0, 1) := by decide +kernel
theorem dX12_workOut_35 : decode cX12_workOut 35 = .ok (.getfield 13, 3) := by decide +kernel
theorem dX12_workOut_38 : decode cX12_workOut 38 = .ok (.iload 5, 2) := by decide +kernel
theorem dX12_workOut_40 : decode cX12_workOut 40 = .ok (.iaload, 1) := by decide +kernel
theorem dX12_workOut_41 : decode cX12_workOut 41 = .ok (.iconst 1, 1) := by decide +kernel
theorem dX12_workOut_42 : decode cX12_workOut 42 = .ok (.if_icmp .ne 48, 3) := by decide +kernel
theorem dX12_workOut_45 : decode cX12_workOut 45 = .ok (.aload_n 0, 1) := by decide +kernel
theorem dX12_workOut_46 : decode cX12_workOut 46 = .ok (.getfield 37, 3) := by decide +kernel
theorem dX12_workOut_49 : decode cX12_workOut 49 = .ok (.iload 4, 2) := by decide +kernel
theorem dX12_workOut_51 : decode cX12_workOut 51 = .ok (.aload_n 0, 1) := by decide +kernel
theorem dX12_workOut_52 : decode cX12_workOut 52 = .ok (.getfield 13, 3) := by decide +kernel
theorem dX12_workOut_55 : decode cX12_workOut 55 = .ok (.iload 5, 2) := by decide +kernel
theorem dX12_workOut_57 : decode cX12_workOut 57 = .ok (.iaload, 1) := by decide +kernel
theorem dX12_workOut_58 : decode cX12_workOut 58 = .ok (.ifCond .ne 13, 3) := by decide +kernel
theorem dX12_workOut_61 : decode cX12_workOut 61 = .ok (.aload_n 0, 1) := by decide +kernel
theorem dX12_workOut_62 : decode cX12_workOut 62 = .ok (.getfield 16, 3) := by decide +kernel
theorem dX12_workOut_65 : decode cX12_workOut 65 = .ok (.iload 5, 2) := by decide +kernel
theorem dX12_workOut_67 : decode cX12_workOut 67 = .ok (.iaload, 1) := by decide +kernel
theorem dX12_workOut_68 : decode cX12_workOut 68 = .ok (.goto 15, 3) := by decide +kernel
theorem dX12_workOut_71 : decode cX12_workOut 71 = .ok (.aload_n 0, 1) := by decide +kernel
theorem dX12_workOut_72 : decode cX12_workOut 72 = .ok (.getfield 34, 3) := by decide +kernel
theorem dX12_workOut_75 : decode cX12_workOut 75 = .ok (.aload_n 0, 1) := by decide +kernel
theorem dX12_workOut_76 : decode cX12_workOut 76 = .ok (.getfield 16, 3) := by decide +kernel
theorem dX12_workOut_79 : decode cX12_workOut 79 = .ok (.iload 5, 2) := by decide +kernel
theorem dX12_workOut_81 : decode cX12_workOut 81 = .ok (.iaload, 1) := by decide +kernel
theorem dX12_workOut_82 : decode cX12_workOut 82 = .ok (.iaload, 1) := by decide +kernel
theorem dX12_workOut_83 : decode cX12_workOut 83 = .ok (.iastore, 1) := by decide +kernel
theorem dX12_workOut_84 : decode cX12_workOut 84 = .ok (.iinc 4 1, 3) := by decide +kernel
theorem dX12_workOut_87 : decode cX12_workOut 87 = .ok (.goto 78, 3) := by decide +kernel
theorem dX12_workOut_90 : decode cX12_workOut 90 = .ok (.aload_n 0, 1) := by decide +kernel
theorem dX12_workOut_91 : decode cX12_workOut 91 = .ok (.getfield 13, 3) := by decide +kernel
theorem dX12_workOut_94 : decode cX12_workOut 94 = .ok (.iload 5, 2) := by decide +kernel
theorem dX12_workOut_96 : decode cX12_workOut 96 = .ok (.iaload, 1) := by decide +kernel
theorem dX12_workOut_97 : decode cX12_workOut 97 = .ok (.bipush 9, 2) := by decide +kernel
theorem dX12_workOut_99 : decode cX12_workOut 99 = .ok (.if_icmp .ne 26, 3) := by decide +kernel
theorem dX12_workOut_102 : decode cX12_workOut 102 = .ok (.aload_n 0, 1) := by decide +kernel
theorem dX12_workOut_103 : decode cX12_workOut 103 = .ok (.getfield 37, 3) := by decide +kernel
theorem dX12_workOut_106 : decode cX12_workOut 106 = .ok (.iload 4, 2) := by decide +kernel
theorem dX12_workOut_108 : decode cX12_workOut 108 = .ok (.iconst 1, 1) := by decide +kernel
theorem dX12_workOut_109 : decode cX12_workOut 109 = .ok (.isub, 1) := by decide +kernel
theorem dX12_workOut_110 : decode cX12_workOut 110 = .ok (.iconst 1, 1) := by decide +kernel
theorem dX12_workOut_111 : decode cX12_workOut 111 = .ok (.aload_n 0, 1) := by decide +kernel
theorem dX12_workOut_112 : decode cX12_workOut 112 = .ok (.getfield 37, 3) := by decide +kernel
theorem dX12_workOut_115 : decode cX12_workOut 115 = .ok (.iload 4, 2) := by decide +kernel
theorem dX12_workOut_117 : decode cX12_workOut 117 = .ok (.iconst 1, 1) := by decide +kernel
theorem dX12_workOut_118 : decode cX12_workOut 118 = .ok (.isub, 1) := by decide +kernel
theorem dX12_workOut_119 : decode cX12_workOut 119 = .ok (.iaload, 1) := by decide +kernel
theorem dX12_workOut_120 : decode cX12_workOut 120 = .ok (.isub, 1) := by decide +kernel
theorem dX12_workOut_121 : decode cX12_workOut 121 = .ok (.iastore, 1) := by decide +kernel
theorem dX12_workOut_122 : decode cX12_workOut 122 = .ok (.goto 43, 3) := by decide +kernel
theorem dX12_workOut_125 : decode cX12_workOut 125 = .ok (.iinc 4 (-1), 3) := by decide +kernel
theorem dX12_workOut_128 : decode cX12_workOut 128 = .ok (.aload_n 0, 1) := by decide +kernel
theorem dX12_workOut_129 : decode cX12_workOut 129 = .ok (.getfield 37, 3) := by decide +kernel
theorem dX12_workOut_132 : decode cX12_workOut 132 = .ok (.iload 4, 2) := by decide +kernel
theorem dX12_workOut_134 : decode cX12_workOut 134 = .ok (.iconst 1, 1) := by decide +kernel
theorem dX12_workOut_135 : decode cX12_workOut 135 = .ok (.isub, 1) := by decide +kernel
theorem dX12_workOut_136 : decode cX12_workOut 136 = .ok (.aload_n 0, 1) := by decide +kernel
theorem dX12_workOut_137 : decode cX12_workOut 137 = .ok (.getfield 13, 3) := by decide +kernel
theorem dX12_workOut_140 : decode cX12_workOut 140 = .ok (.iload 5, 2) := by decide +kernel
theorem dX12_workOut_142 : decode cX12_workOut 142 = .ok (.iaload, 1) := by decide +kernel
theorem dX12_workOut_143 : decode cX12_workOut 143 = .ok (.aload_n 0, 1) := by decide +kernel
theorem dX12_workOut_144 : decode cX12_workOut 144 = .ok (.getfield 37, 3) := by decide +kernel
theorem dX12_workOut_147 : decode cX12_workOut 147 = .ok (.iload 4, 2) := by decide +kernel
theorem dX12_workOut_149 : decode cX12_workOut 149 = .ok (.iconst 1, 1) := by decide +kernel
theorem dX12_workOut_150 : decode cX12_workOut 150 = .ok (.isub, 1) := by decide +kernel
theorem dX12_workOut_151 : decode cX12_workOut 151 = .ok (.iaload, 1) := by decide +kernel
theorem dX12_workOut_152 : decode cX12_workOut 152 = .ok (.i2l, 1) := by decide +kernel
theorem dX12_workOut_153 : decode cX12_workOut 153 = .ok (.aload_n 0, 1) := by decide +kernel
theorem dX12_workOut_154 : decode cX12_workOut 154 = .ok (.getfield 37, 3) := by decide +kernel
theorem dX12_workOut_157 : decode cX12_workOut 157 = .ok (.iload 4, 2) := by decide +kernel
theorem dX12_workOut_159 : decode cX12_workOut 159 = .ok (.iaload, 1) := by decide +kernel
theorem dX12_workOut_160 : decode cX12_workOut 160 = .ok (.i2l, 1) := by decide +kernel
theorem dX12_workOut_161 : decode cX12_workOut 161 = .ok (.invokestatic 198, 3) := by decide +kernel
theorem dX12_workOut_164 : decode cX12_workOut 164 = .ok (.iastore, 1) := by decide +kernel
theorem dX12_workOut_165 : decode cX12_workOut 165 = .ok (.iinc 5 1, 3) := by decide +kernel
theorem dX12_workOut_168 : decode cX12_workOut 168 = .ok (.goto (-156), 3) := by decide +kernel
theorem dX12_workOut_171 : decode cX12_workOut 171 = .ok (.aload_n 0, 1) := by decide +kernel
theorem dX12_workOut_172 : decode cX12_workOut 172 = .ok (.getfield 37, 3) := by decide +kernel
theorem dX12_workOut_175 : decode cX12_workOut 175 = .ok (.iconst 0, 1) := by decide +kernel
theorem dX12_workOut_176 : decode cX12_workOut 176 = .ok (.iaload, 1) := by decide +kernel
theorem dX12_workOut_177 : decode cX12_workOut 177 = .ok (.ireturn, 1) := by decide +kernel
theorem dX12_worthOf_0 : decode cX12_worthOf 0 = .ok (.sipush 140, 3) := by decide +kernel
theorem dX12_worthOf_3 : decode cX12_worthOf 3 = .ok (.iload_n 1, 1) := by decide +kernel
theorem dX12_worthOf_4 : decode cX12_worthOf 4 = .ok (.imul, 1) := by decide +kernel
theorem dX12_worthOf_5 : decode cX12_worthOf 5 = .ok (.istore_n 2, 1) := by decide +kernel
theorem dX12_worthOf_6 : decode cX12_worthOf 6 = .ok (.iload_n 2, 1) := by decide +kernel
theorem dX12_worthOf_7 : decode cX12_worthOf 7 = .ok (.sipush 140, 3) := by decide +kernel
theorem dX12_worthOf_10 : decode cX12_worthOf 10 = .ok (.iload_n 1, 1) := by decide +kernel
theorem dX12_worthOf_11 : decode cX12_worthOf 11 = .ok (.imul, 1) := by decide +kernel
theorem dX12_worthOf_12 : decode cX12_worthOf 12 = .ok (.aload_n 0, 1) := by decide +kernel
theorem dX12_worthOf_13 : decode cX12_worthOf 13 = .ok (.getfield 22, 3) := by decide +kernel
theorem dX12_worthOf_16 : decode cX12_worthOf 16 = .ok (.iload_n 1, 1) := by decide +kernel
theorem dX12_worthOf_17 : decode cX12_worthOf 17 = .ok (.iaload, 1) := by decide +kernel
theorem dX12_worthOf_18 : decode cX12_worthOf 18 = .ok (.iadd, 1) := by decide +kernel
theorem dX12_worthOf_19 : decode cX12_worthOf 19 = .ok (.if_icmp .ge 62, 3) := by decide +kernel
theorem dX12_worthOf_22 : decode cX12_worthOf 22 = .ok (.aload_n 0, 1) := by decide +kernel
theorem dX12_worthOf_23 : decode cX12_worthOf 23 = .ok (.getfield 25, 3) := by decide +kernel
theorem dX12_worthOf_26 : decode cX12_worthOf 26 = .ok (.iload_n 2, 1) := by decide +kernel
theorem dX12_worthOf_27 : decode cX12_worthOf 27 = .ok (.iaload, 1) := by decide +kernel
theorem dX12_worthOf_28 : decode cX12_worthOf 28 = .ok (.aload_n 0, 1) := by decide +kernel
theorem dX12_worthOf_29 : decode cX12_worthOf 29 = .ok (.getfield 28, 3) := by decide +kernel
theorem dX12_worthOf_32 : decode cX12_worthOf 32 = .ok (.iload_n 2, 1) := by decide +kernel
theorem dX12_worthOf_33 : decode cX12_worthOf 33 = .ok (.iaload, 1) := by decide +kernel
theorem dX12_worthOf_34 : decode cX12_worthOf 34 = .ok (.if_icmp .eq 23, 3) := by decide +kernel
theorem dX12_worthOf_37 : decode cX12_worthOf 37 = .ok (.aload_n 0, 1) := by decide +kernel
theorem dX12_worthOf_38 : decode cX12_worthOf 38 = .ok (.iload_n 1, 1) := by decide +kernel
theorem dX12_worthOf_39 : decode cX12_worthOf 39 = .ok (.aload_n 0, 1) := by decide +kernel
theorem dX12_worthOf_40 : decode cX12_worthOf 40 = .ok (.getfield 25, 3) := by decide +kernel
theorem dX12_worthOf_43 : decode cX12_worthOf 43 = .ok (.iload_n 2, 1) := by decide +kernel
theorem dX12_worthOf_44 : decode cX12_worthOf 44 = .ok (.iaload, 1) := by decide +kernel
theorem dX12_worthOf_45 : decode cX12_worthOf 45 = .ok (.aload_n 0, 1) := by decide +kernel
theorem dX12_worthOf_46 : decode cX12_worthOf 46 = .ok (.getfield 28, 3) := by decide +kernel
theorem dX12_worthOf_49 : decode cX12_worthOf 49 = .ok (.iload_n 2, 1) := by decide +kernel
theorem dX12_worthOf_50 : decode cX12_worthOf 50 = .ok (.iaload, 1) := by decide +kernel
theorem dX12_worthOf_51 : decode cX12_worthOf 51 = .ok (.invokevirtual 202, 3) := by decide +kernel
theorem dX12_worthOf_54 : decode cX12_worthOf 54 = .ok (.ifCond .eq 21, 3) := by decide +kernel
theorem dX12_worthOf_57 : decode cX12_worthOf 57 = .ok (.aload_n 0, 1) := by decide +kernel
theorem dX12_worthOf_58 : decode cX12_worthOf 58 = .ok (.iload_n 1, 1) := by decide +kernel
theorem dX12_worthOf_59 : decode cX12_worthOf 59 = .ok (.aload_n 0, 1) := by decide +kernel
theorem dX12_worthOf_60 : decode cX12_worthOf 60 = .ok (.getfield 28, 3) := by decide +kernel
theorem dX12_worthOf_63 : decode cX12_worthOf 63 = .ok (.iload_n 2, 1) := by decide +kernel
theorem dX12_worthOf_64 : decode cX12_worthOf 64 = .ok (.iaload, 1) := by decide +kernel
theorem dX12_worthOf_65 : decode cX12_worthOf 65 = .ok (.aload_n 0, 1) := by decide +kernel
theorem dX12_worthOf_66 : decode cX12_worthOf 66 = .ok (.getfield 31, 3) := by decide +kernel
theorem dX12_worthOf_69 : decode cX12_worthOf 69 = .ok (.iload_n 2, 1) := by decide +kernel
theorem dX12_worthOf_70 : decode cX12_worthOf 70 = .ok (.iaload, 1) := by decide +kernel
theorem dX12_worthOf_71 : decode cX12_worthOf 71 = .ok (.invokevirtual 202, 3) := by decide +kernel
theorem dX12_worthOf_74 : decode cX12_worthOf 74 = .ok (.ireturn, 1) := by decide +kernel
theorem dX12_worthOf_75 : decode cX12_worthOf 75 = .ok (.iinc 2 1, 3) := by decide +kernel
theorem dX12_worthOf_78 : decode cX12_worthOf 78 = .ok (.goto (-72), 3) := by decide +kernel
theorem dX12_worthOf_81 : decode cX12_worthOf 81 = .ok (.iconst 0, 1) := by decide +kernel
theorem dX12_worthOf_82 : decode cX12_worthOf 82 = .ok (.ireturn, 1) := by decide +kernel
theorem dX12_number_0 : decode cX12_number 0 = .ok (.aload_n 0, 1) := by decide +kernel
theorem dX12_number_1 : decode cX12_number 1 = .ok (.invokevirtual 120, 3) := by decide +kernel
theorem dX12_number_4 : decode cX12_number 4 = .ok (.invokestatic 123, 3) := by decide +kernel
theorem dX12_number_7 : decode cX12_number 7 = .ok (.ifCond .ne 9, 3) := by decide +kernel
theorem dX12_number_10 : decode cX12_number 10 = .ok (.aload_n 0, 1) := by decide +kernel
theorem dX12_number_11 : decode cX12_number 11 = .ok (.invokevirtual 117, 3) := by decide +kernel
theorem dX12_number_14 : decode cX12_number 14 = .ok (.iload_n 1, 1) := by decide +kernel
theorem dX12_number_15 : decode cX12_number 15 = .ok (.ireturn, 1) := by decide +kernel
theorem dX12_number_16 : decode cX12_number 16 = .ok (.aload_n 0, 1) := by decide +kernel
theorem dX12_number_17 : decode cX12_number 17 = .ok (.invokevirtual 104, 3) := by decide +kernel
theorem dX12_number_20 : decode cX12_number 20 = .ok (.bipush 48, 2) := by decide +kernel
theorem dX12_number_22 : decode cX12_number 22 = .ok (.isub, 1) := by decide +kernel
theorem dX12_number_23 : decode cX12_number 23 = .ok (.istore_n 3, 1) := by decide +kernel
theorem dX12_number_24 : decode cX12_number 24 = .ok (.aload_n 0, 1) := by decide +kernel
theorem dX12_number_25 : decode cX12_number 25 = .ok (.dup, 1) := by decide +kernel
theorem dX12_number_26 : decode cX12_number 26 = .ok (.getfield 101, 3) := by decide +kernel
theorem dX12_number_29 : decode cX12_number 29 = .ok (.iconst 1, 1) := by decide +kernel
theorem dX12_number_30 : decode cX12_number 30 = .ok (.iadd, 1) := by decide +kernel
theorem dX12_number_31 : decode cX12_number 31 = .ok (.putfield 101, 3) := by decide +kernel
theorem dX12_number_34 : decode cX12_number 34 = .ok (.aload_n 0, 1) := by decide +kernel
theorem dX12_number_35 : decode cX12_number 35 = .ok (.invokevirtual 104, 3) := by decide +kernel
theorem dX12_number_38 : decode cX12_number 38 = .ok (.invokestatic 123, 3) := by decide +kernel
theorem dX12_number_41 : decode cX12_number 41 = .ok (.ifCond .eq 26, 3) := by decide +kernel
theorem dX12_number_44 : decode cX12_number 44 = .ok (.bipush 10, 2) := by decide +kernel
theorem dX12_number_46 : decode cX12_number 46 = .ok (.iload_n 3, 1) := by decide +kernel
theorem dX12_number_47 : decode cX12_number 47 = .ok (.imul, 1) := by decide +kernel
theorem dX12_number_48 : decode cX12_number 48 = .ok (.aload_n 0, 1) := by decide +kernel
theorem dX12_number_49 : decode cX12_number 49 = .ok (.invokevirtual 104, 3) := by decide +kernel
theorem dX12_number_52 : decode cX12_number 52 = .ok (.iadd, 1) := by decide +kernel
theorem dX12_number_53 : decode cX12_number 53 = .ok (.bipush 48, 2) := by decide +kernel
theorem dX12_number_55 : decode cX12_number 55 = .ok (.isub, 1) := by decide +kernel
theorem dX12_number_56 : decode cX12_number 56 = .ok (.istore_n 3, 1) := by decide +kernel
theorem dX12_number_57 : decode cX12_number 57 = .ok (.aload_n 0, 1) := by decide +kernel
theorem dX12_number_58 : decode cX12_number 58 = .ok (.dup, 1) := by decide +kernel
theorem dX12_number_59 : decode cX12_number 59 = .ok (.getfield 101, 3) := by decide +kernel
theorem dX12_number_62 : decode cX12_number 62 = .ok (.iconst 1, 1) := by decide +kernel
theorem dX12_number_63 : decode cX12_number 63 = .ok (.iadd, 1) := by decide +kernel
theorem dX12_number_64 : decode cX12_number 64 = .ok (.putfield 101, 3) := by decide +kernel
theorem dX12_number_67 : decode cX12_number 67 = .ok (.aload_n 0, 1) := by decide +kernel
theorem dX12_number_68 : decode cX12_number 68 = .ok (.invokevirtual 104, 3) := by decide +kernel
theorem dX12_number_71 : decode cX12_number 71 = .ok (.invokestatic 123, 3) := by decide +kernel
theorem dX12_number_74 : decode cX12_number 74 = .ok (.ifCond .eq 10, 3) := by decide +kernel
theorem dX12_number_77 : decode cX12_number 77 = .ok (.aload_n 0, 1) := by decide +kernel
theorem dX12_number_78 : decode cX12_number 78 = .ok (.invokevirtual 117, 3) := by decide +kernel
theorem dX12_number_81 : decode cX12_number 81 = .ok (.goto 26, 3) := by decide +kernel
theorem dX12_number_84 : decode cX12_number 84 = .ok (.iload_n 3, 1) := by decide +kernel
theorem dX12_number_85 : decode cX12_number 85 = .ok (.iload_n 1, 1) := by decide +kernel
theorem dX12_number_86 : decode cX12_number 86 = .ok (.iload_n 2, 1) := by decide +kernel
theorem dX12_number_87 : decode cX12_number 87 = .ok (.invokestatic 206, 3) := by decide +kernel
theorem dX12_number_90 : decode cX12_number 90 = .ok (.ifCond .ne 17, 3) := by decide +kernel
theorem dX12_number_93 : decode cX12_number 93 = .ok (.aload_n 0, 1) := by decide +kernel
theorem dX12_number_94 : decode cX12_number 94 = .ok (.dup, 1) := by decide +kernel
theorem dX12_number_95 : decode cX12_number 95 = .ok (.getfield 101, 3) := by decide +kernel
theorem dX12_number_98 : decode cX12_number 98 = .ok (.iconst 1, 1) := by decide +kernel
theorem dX12_number_99 : decode cX12_number 99 = .ok (.isub, 1) := by decide +kernel
theorem dX12_number_100 : decode cX12_number 100 = .ok (.putfield 101, 3) := by decide +kernel
theorem dX12_number_103 : decode cX12_number 103 = .ok (.aload_n 0, 1) := by decide +kernel
theorem dX12_number_104 : decode cX12_number 104 = .ok (.invokevirtual 117, 3) := by decide +kernel
theorem dX12_number_107 : decode cX12_number 107 = .ok (.iload_n 3, 1) := by decide +kernel
theorem dX12_number_108 : decode cX12_number 108 = .ok (.ireturn, 1) := by decide +kernel
theorem dX12_itemOf_0 : decode cX12_itemOf 0 = .ok (.iload_n 0, 1) := by decide +kernel
theorem dX12_itemOf_1 : decode cX12_itemOf 1 = .ok (.lookupswitch 111 #[(109, 27), (111, 89)], 27) := by decide +kernel
theorem dX12_itemOf_28 : decode cX12_itemOf 28 = .ok (.iload_n 1, 1) := by decide +kernel
theorem dX12_itemOf_29 : decode cX12_itemOf 29 = .ok (.bipush 115, 2) := by decide +kernel
theorem dX12_itemOf_31 : decode cX12_itemOf 31 = .ok (.if_icmp .ne 7, 3) := by decide +kernel
theorem dX12_itemOf_34 : decode cX12_itemOf 34 = .ok (.iconst 0, 1) := by decide +kernel
theorem dX12_itemOf_35 : decode cX12_itemOf 35 = .ok (.goto 54, 3) := by decide +kernel
theorem dX12_itemOf_38 : decode cX12_itemOf 38 = .ok (.iload_n 1, 1) := by decide +kernel
theorem dX12_itemOf_39 : decode cX12_itemOf 39 = .ok (.bipush 100, 2) := by decide +kernel
theorem dX12_itemOf_41 : decode cX12_itemOf 41 = .ok (.if_icmp .ne 7, 3) := by decide +kernel
theorem dX12_itemOf_44 : decode cX12_itemOf 44 = .ok (.iconst 1, 1) := by decide +kernel
theorem dX12_itemOf_45 : decode cX12_itemOf 45 = .ok (.goto 44, 3) := by decide +kernel
theorem dX12_itemOf_48 : decode cX12_itemOf 48 = .ok (.iload_n 1, 1) := by decide +kernel
theorem dX12_itemOf_49 : decode cX12_itemOf 49 = .ok (.bipush 118, 2) := by decide +kernel
theorem dX12_itemOf_51 : decode cX12_itemOf 51 = .ok (.if_icmp .ne 7, 3) := by decide +kernel
theorem dX12_itemOf_54 : decode cX12_itemOf 54 = .ok (.iconst 2, 1) := by decide +kernel
theorem dX12_itemOf_55 : decode cX12_itemOf 55 = .ok (.goto 34, 3) := by decide +kernel
theorem dX12_itemOf_58 : decode cX12_itemOf 58 = .ok (.iload_n 1, 1) := by decide +kernel
theorem dX12_itemOf_59 : decode cX12_itemOf 59 = .ok (.bipush 98, 2) := by decide +kernel
theorem dX12_itemOf_61 : decode cX12_itemOf 61 = .ok (.if_icmp .ne 7, 3) := by decide +kernel
theorem dX12_itemOf_64 : decode cX12_itemOf 64 = .ok (.iconst 3, 1) := by decide +kernel
theorem dX12_itemOf_65 : decode cX12_itemOf 65 = .ok (.goto 24, 3) := by decide +kernel
theorem dX12_itemOf_68 : decode cX12_itemOf 68 = .ok (.iload_n 1, 1) := by decide +kernel
theorem dX12_itemOf_69 : decode cX12_itemOf 69 = .ok (.bipush 110, 2) := by decide +kernel
theorem dX12_itemOf_71 : decode cX12_itemOf 71 = .ok (.if_icmp .ne 7, 3) := by decide +kernel
theorem dX12_itemOf_74 : decode cX12_itemOf 74 = .ok (.iconst 4, 1) := by decide +kernel
theorem dX12_itemOf_75 : decode cX12_itemOf 75 = .ok (.goto 14, 3) := by decide +kernel
theorem dX12_itemOf_78 : decode cX12_itemOf 78 = .ok (.iload_n 1, 1) := by decide +kernel
theorem dX12_itemOf_79 : decode cX12_itemOf 79 = .ok (.bipush 105, 2) := by decide +kernel
theorem dX12_itemOf_81 : decode cX12_itemOf 81 = .ok (.if_icmp .ne 7, 3) := by decide +kernel
theorem dX12_itemOf_84 : decode cX12_itemOf 84 = .ok (.iconst 5, 1) := by decide +kernel
theorem dX12_itemOf_85 : decode cX12_itemOf 85 = .ok (.goto 4, 3) := by decide +kernel
theorem dX12_itemOf_88 : decode cX12_itemOf 88 = .ok (.iconst (-1), 1) := by decide +kernel
theorem dX12_itemOf_89 : decode cX12_itemOf 89 = .ok (.ireturn, 1) := by decide +kernel
theorem dX12_itemOf_90 : decode cX12_itemOf 90 = .ok (.iload_n 1, 1) := by decide +kernel
theorem dX12_itemOf_91 : decode cX12_itemOf 91 = .ok (.bipush 107, 2) := by decide +kernel
theorem dX12_itemOf_93 : decode cX12_itemOf 93 = .ok (.if_icmp .ne 7, 3) := by decide +kernel
theorem dX12_itemOf_96 : decode cX12_itemOf 96 = .ok (.iconst 0, 1) := by decide +kernel
theorem dX12_itemOf_97 : decode cX12_itemOf 97 = .ok (.goto 14, 3) := by decide +kernel
theorem dX12_itemOf_100 : decode cX12_itemOf 100 = .ok (.iload_n 1, 1) := by decide +kernel
theorem dX12_itemOf_101 : decode cX12_itemOf 101 = .ok (.bipush 120, 2) := by decide +kernel
theorem dX12_itemOf_103 : decode cX12_itemOf 103 = .ok (.if_icmp .ne 7, 3) := by decide +kernel
theorem dX12_itemOf_106 : decode cX12_itemOf 106 = .ok (.iconst 1, 1) := by decide +kernel
theorem dX12_itemOf_107 : decode cX12_itemOf 107 = .ok (.goto 4, 3) := by decide +kernel
theorem dX12_itemOf_110 : decode cX12_itemOf 110 = .ok (.iconst (-1), 1) := by decide +kernel
theorem dX12_itemOf_111 : decode cX12_itemOf 111 = .ok (.ireturn, 1) := by decide +kernel
theorem dX12_itemOf_112 : decode cX12_itemOf 112 = .ok (.iload_n 1, 1) := by decide +kernel
theorem dX12_itemOf_113 : decode cX12_itemOf 113 = .ok (.bipush 112, 2) := by decide +kernel
theorem dX12_itemOf_115 : decode cX12_itemOf 115 = .ok (.if_icmp .ne 7, 3) := by decide +kernel
theorem dX12_itemOf_118 : decode cX12_itemOf 118 = .ok (.iconst 0, 1) := by decide +kernel
theorem dX12_itemOf_119 : decode cX12_itemOf 119 = .ok (.goto 14, 3) := by decide +kernel
theorem dX12_itemOf_122 : decode cX12_itemOf 122 = .ok (.iload_n 1, 1) := by decide +kernel
theorem dX12_itemOf_123 : decode cX12_itemOf 123 = .ok (.bipush 103, 2) := by decide +kernel
theorem dX12_itemOf_125 : decode cX12_itemOf 125 = .ok (.if_icmp .ne 7, 3) := by decide +kernel
theorem dX12_itemOf_128 : decode cX12_itemOf 128 = .ok (.iconst 1, 1) := by decide +kernel
theorem dX12_itemOf_129 : decode cX12_itemOf 129 = .ok (.goto 4, 3) := by decide +kernel
theorem dX12_itemOf_132 : decode cX12_itemOf 132 = .ok (.iconst (-1), 1) := by decide +kernel
theorem dX12_itemOf_133 : decode cX12_itemOf 133 = .ok (.ireturn, 1) := by decide +kernel
theorem dX12_lowest_0 : decode cX12_lowest 0 = .ok (.iload_n 0, 1) := by decide +kernel
theorem dX12_lowest_1 : decode cX12_lowest 1 = .ok (.bipush 111, 2) := by decide +kernel
theorem dX12_lowest_3 : decode cX12_lowest 3 = .ok (.if_icmp .eq 14, 3) := by decide +kernel
theorem dX12_lowest_6 : decode cX12_lowest 6 = .ok (.iload_n 0, 1) := by decide +kernel
theorem dX12_lowest_7 : decode cX12_lowest 7 = .ok (.bipush 109, 2) := by decide +kernel
theorem dX12_lowest_9 : decode cX12_lowest 9 = .ok (.if_icmp .ne 12, 3) := by decide +kernel
theorem dX12_lowest_12 : decode cX12_lowest 12 = .ok (.iload_n 1, 1) := by decide +kernel
theorem dX12_lowest_13 : decode cX12_lowest 13 = .ok (.iconst 2, 1) := by decide +kernel
theorem dX12_lowest_14 : decode cX12_lowest 14 = .ok (.if_icmp .ne 7, 3) := by decide +kernel
theorem dX12_lowest_17 : decode cX12_lowest 17 = .ok (.iconst 1, 1) := by decide +kernel
theorem dX12_lowest_18 : decode cX12_lowest 18 = .ok (.goto 4, 3) := by decide +kernel
theorem dX12_lowest_21 : decode cX12_lowest 21 = .ok (.iconst 0, 1) := by decide +kernel
theorem dX12_lowest_22 : decode cX12_lowest 22 = .ok (.ireturn, 1) := by decide +kernel
theorem dX12_highest_0 : decode cX12_highest 0 = .ok (.iload_n 0, 1) := by decide +kernel
theorem dX12_highest_1 : decode cX12_highest 1 = .ok (.lookupswitch 74 #[(109, 27), (111, 62)], 27) := by decide +kernel
theorem dX12_highest_28 : decode cX12_highest 28 = .ok (.iload_n 1, 1) := by decide +kernel
theorem dX12_highest_29 : decode cX12_highest 29 = .ok (.ifCond .eq 8, 3) := by decide +kernel
theorem dX12_highest_32 : decode cX12_highest 32 = .ok (.iload_n 1, 1) := by decide +kernel
theorem dX12_highest_33 : decode cX12_highest 33 = .ok (.iconst 3, 1) := by decide +kernel
theorem dX12_highest_34 : decode cX12_highest 34 = .ok (.if_icmp .ne 7, 3) := by decide +kernel
theorem dX12_highest_37 : decode cX12_highest 37 = .ok (.iconst 1, 1) := by decide +kernel
theorem dX12_highest_38 : decode cX12_highest 38 = .ok (.goto 24, 3) := by decide +kernel
theorem dX12_highest_41 : decode cX12_highest 41 = .ok (.iload_n 1, 1) := by decide +kernel
theorem dX12_highest_42 : decode cX12_highest 42 = .ok (.iconst 1, 1) := by decide +kernel
theorem dX12_highest_43 : decode cX12_highest 43 = .ok (.if_icmp .ne 8, 3) := by decide +kernel
theorem dX12_highest_46 : decode cX12_highest 46 = .ok (.bipush 20, 2) := by decide +kernel
theorem dX12_highest_48 : decode cX12_highest 48 = .ok (.goto 14, 3) := by decide +kernel
theorem dX12_highest_51 : decode cX12_highest 51 = .ok (.iload_n 1, 1) := by decide +kernel
theorem dX12_highest_52 : decode cX12_highest 52 = .ok (.iconst 2, 1) := by decide +kernel
theorem dX12_highest_53 : decode cX12_highest 53 = .ok (.if_icmp .ne 7, 3) := by decide +kernel
theorem dX12_highest_56 : decode cX12_highest 56 = .ok (.iconst 5, 1) := by decide +kernel
theorem dX12_highest_57 : decode cX12_highest 57 = .ok (.goto 5, 3) := by decide +kernel
theorem dX12_highest_60 : decode cX12_highest 60 = .ok (.bipush 9, 2) := by decide +kernel
theorem dX12_highest_62 : decode cX12_highest 62 = .ok (.ireturn, 1) := by decide +kernel
theorem dX12_highest_63 : decode cX12_highest 63 = .ok (.iload_n 1, 1) := by decide +kernel
theorem dX12_highest_64 : decode cX12_highest 64 = .ok (.ifCond .ne 8, 3) := by decide +kernel
theorem dX12_highest_67 : decode cX12_highest 67 = .ok (.bipush 20, 2) := by decide +kernel
theorem dX12_highest_69 : decode cX12_highest 69 = .ok (.goto 5, 3) := by decide +kernel
theorem dX12_highest_72 : decode cX12_highest 72 = .ok (.bipush 9, 2) := by decide +kernel
theorem dX12_highest_74 : decode cX12_highest 74 = .ok (.ireturn, 1) := by decide +kernel
theorem dX12_highest_75 : decode cX12_highest 75 = .ok (.iload_n 1, 1) := by decide +kernel
theorem dX12_highest_76 : decode cX12_highest 76 = .ok (.ifCond .ne 8, 3) := by decide +kernel
theorem dX12_highest_79 : decode cX12_highest 79 = .ok (.bipush 9, 2) := by decide +kernel
theorem dX12_highest_81 : decode cX12_highest 81 = .ok (.goto 4, 3) := by decide +kernel
theorem dX12_highest_84 : decode cX12_highest 84 = .ok (.iconst 1, 1) := by decide +kernel
theorem dX12_highest_85 : decode cX12_highest 85 = .ok (.ireturn, 1) := by decide +kernel
theorem dX12_usual_0 : decode cX12_usual 0 = .ok (.iload_n 0, 1) := by decide +kernel
theorem dX12_usual_1 : decode cX12_usual 1 = .ok (.lookupswitch 67 #[(109, 27), (111, 57)], 27) := by decide +kernel
theorem dX12_usual_28 : decode cX12_usual 28 = .ok (.iload_n 1, 1) := by decide +kernel
theorem dX12_usual_29 : decode cX12_usual 29 = .ok (.iconst 1, 1) := by decide +kernel
theorem dX12_usual_30 : decode cX12_usual 30 = .ok (.if_icmp .ne 8, 3) := by decide +kernel
theorem dX12_usual_33 : decode cX12_usual 33 = .ok (.bipush 6, 2) := by decide +kernel
theorem dX12_usual_35 : decode cX12_usual 35 = .ok (.goto 22, 3) := by decide +kernel
theorem dX12_usual_38 : decode cX12_usual 38 = .ok (.iload_n 1, 1) := by decide +kernel
theorem dX12_usual_39 : decode cX12_usual 39 = .ok (.iconst 2, 1) := by decide +kernel
theorem dX12_usual_40 : decode cX12_usual 40 = .ok (.if_icmp .ne 7, 3) := by decide +kernel
theorem dX12_usual_43 : decode cX12_usual 43 = .ok (.iconst 1, 1) := by decide +kernel
theorem dX12_usual_44 : decode cX12_usual 44 = .ok (.goto 13, 3) := by decide +kernel
theorem dX12_usual_47 : decode cX12_usual 47 = .ok (.iload_n 1, 1) := by decide +kernel
theorem dX12_usual_48 : decode cX12_usual 48 = .ok (.iconst 4, 1) := by decide +kernel
theorem dX12_usual_49 : decode cX12_usual 49 = .ok (.if_icmp .ne 7, 3) := by decide +kernel
theorem dX12_usual_52 : decode cX12_usual 52 = .ok (.iconst 3, 1) := by decide +kernel
theorem dX12_usual_53 : decode cX12_usual 53 = .ok (.goto 4, 3) := by decide +kernel
theorem dX12_usual_56 : decode cX12_usual 56 = .ok (.iconst 0, 1) := by decide +kernel
theorem dX12_usual_57 : decode cX12_usual 57 = .ok (.ireturn, 1) := by decide +kernel
theorem dX12_usual_58 : decode cX12_usual 58 = .ok (.iload_n 1, 1) := by decide +kernel
theorem dX12_usual_59 : decode cX12_usual 59 = .ok (.ifCond .ne 7, 3) := by decide +kernel
theorem dX12_usual_62 : decode cX12_usual 62 = .ok (.iconst 3, 1) := by decide +kernel
theorem dX12_usual_63 : decode cX12_usual 63 = .ok (.goto 4, 3) := by decide +kernel
theorem dX12_usual_66 : decode cX12_usual 66 = .ok (.iconst 2, 1) := by decide +kernel
theorem dX12_usual_67 : decode cX12_usual 67 = .ok (.ireturn, 1) := by decide +kernel
theorem dX12_usual_68 : decode cX12_usual 68 = .ok (.iload_n 1, 1) := by decide +kernel
theorem dX12_usual_69 : decode cX12_usual 69 = .ok (.ifCond .ne 8, 3) := by decide +kernel
theorem dX12_usual_72 : decode cX12_usual 72 = .ok (.bipush 6, 2) := by decide +kernel
theorem dX12_usual_74 : decode cX12_usual 74 = .ok (.goto 4, 3) := by decide +kernel
theorem dX12_usual_77 : decode cX12_usual 77 = .ok (.iconst 0, 1) := by decide +kernel
theorem dX12_usual_78 : decode cX12_usual 78 = .ok (.ireturn, 1) := by decide +kernel
theorem dX12_items_0 : decode cX12_items 0 = .ok (.iconst 0, 1) := by decide +kernel
theorem dX12_items_1 : decode cX12_items 1 = .ok (.istore 5, 2) := by decide +kernel
theorem dX12_items_3 : decode cX12_items 3 = .ok (.iload 5, 2) := by decide +kernel
theorem dX12_items_5 : decode cX12_items 5 = .ok (.iload 4, 2) := by decide +kernel
theorem dX12_items_7 : decode cX12_items 7 = .ok (.if_icmp .ge 21, 3) := by decide +kernel
theorem dX12_items_10 : decode cX12_items 10 = .ok (.aload_n 2, 1) := by decide +kernel
theorem dX12_items_11 : decode cX12_items 11 = .ok (.iload_n 3, 1) := by decide +kernel
theorem dX12_items_12 : decode cX12_items 12 = .ok (.iload 5, 2) := by decide +kernel
theorem dX12_items_14 : decode cX12_items 14 = .ok (.iadd, 1) := by decide +kernel
theorem dX12_items_15 : decode cX12_items 15 = .ok (.iload_n 1, 1) := by decide +kernel
theorem dX12_items_16 : decode cX12_items 16 = .ok (.iload 5, 2) := by decide +kernel
theorem dX12_items_18 : decode cX12_items 18 = .ok (.invokestatic 210, 3) := by decide +kernel
theorem dX12_items_21 : decode cX12_items 21 = .ok (.iastore, 1) := by decide +kernel
theorem dX12_items_22 : decode cX12_items 22 = .ok (.iinc 5 1, 3) := by decide +kernel
theorem dX12_items_25 : decode cX12_items 25 = .ok (.goto (-22), 3) := by decide +kernel
theorem dX12_items_28 : decode cX12_items 28 = .ok (.iconst 0, 1) := by decide +kernel
theorem dX12_items_29 : decode cX12_items 29 = .ok (.istore 5, 2) := by decide +kernel
theorem dX12_items_31 : decode cX12_items 31 = .ok (.iload_n 1, 1) := by decide +kernel
theorem dX12_items_32 : decode cX12_items 32 = .ok (.aload_n 0, 1) := by decide +kernel
theorem dX12_items_33 : decode cX12_items 33 = .ok (.invokevirtual 120, 3) := by decide +kernel
theorem dX12_items_36 : decode cX12_items 36 = .ok (.invokestatic 214, 3) := by decide +kernel
theorem dX12_items_39 : decode cX12_items 39 = .ok (.istore 6, 2) := by decide +kernel
theorem dX12_items_41 : decode cX12_items 41 = .ok (.aload_n 0, 1) := by decide +kernel
theorem dX12_items_42 : decode cX12_items 42 = .ok (.getfield 108, 3) := by decide +kernel
theorem dX12_items_45 : decode cX12_items 45 = .ok (.iconst (-1), 1) := by decide +kernel
theorem dX12_items_46 : decode cX12_items 46 = .ok (.if_icmp .ne 85, 3) := by decide +kernel
theorem dX12_items_49 : decode cX12_items 49 = .ok (.iload 6, 2) := by decide +kernel
theorem dX12_items_51 : decode cX12_items 51 = .ok (.iconst (-1), 1) := by decide +kernel
theorem dX12_items_52 : decode cX12_items 52 = .ok (.if_icmp .eq 79, 3) := by decide +kernel
theorem dX12_items_55 : decode cX12_items 55 = .ok (.iload 5, 2) := by decide +kernel
theorem dX12_items_57 : decode cX12_items 57 = .ok (.iload 6, 2) := by decide +kernel
theorem dX12_items_59 : decode cX12_items 59 = .ok (.invokestatic 217, 3) := by decide +kernel
theorem dX12_items_62 : decode cX12_items 62 = .ok (.ifCond .ne 69, 3) := by decide +kernel
theorem dX12_items_65 : decode cX12_items 65 = .ok (.iload 5, 2) := by decide +kernel
theorem dX12_items_67 : decode cX12_items 67 = .ok (.iconst 1, 1) := by decide +kernel
theorem dX12_items_68 : decode cX12_items 68 = .ok (.iload 6, 2) := by decide +kernel
theorem dX12_items_70 : decode cX12_items 70 = .ok (.ishl, 1) := by decide +kernel
theorem dX12_items_71 : decode cX12_items 71 = .ok (.ior, 1) := by decide +kernel
theorem dX12_items_72 : decode cX12_items 72 = .ok (.istore 5, 2) := by decide +kernel
theorem dX12_items_74 : decode cX12_items 74 = .ok (.aload_n 0, 1) := by decide +kernel
theorem dX12_items_75 : decode cX12_items 75 = .ok (.dup, 1) := by decide +kernel
theorem dX12_items_76 : decode cX12_items 76 = .ok (.getfield 101, 3) := by decide +kernel
theorem dX12_items_79 : decode cX12_items 79 = .ok (.iconst 1, 1) := by decide +kernel
theorem dX12_items_80 : decode cX12_items 80 = .ok (.iadd, 1) := by decide +kernel
theorem dX12_items_81 : decode cX12_items 81 = .ok (.putfield 101, 3) := by decide +kernel
theorem dX12_items_84 : decode cX12_items 84 = .ok (.aload_n 2, 1) := by decide +kernel
theorem dX12_items_85 : decode cX12_items 85 = .ok (.iload_n 3, 1) := by decide +kernel
theorem dX12_items_86 : decode cX12_items 86 = .ok (.iload 6, 2) := by decide +kernel
theorem dX12_items_88 : decode cX12_items 88 = .ok (.iadd, 1) := by decide +kernel
theorem dX12_items_89 : decode cX12_items 89 = .ok (.aload_n 0, 1) := by decide +kernel
theorem dX12_items_90 : decode cX12_items 90 = .ok (.iload_n 1, 1) := by decide +kernel
theorem dX12_items_91 : decode cX12_items 91 = .ok (.iload 6, 2) := by decide +kernel
theorem dX12_items_93 : decode cX12_items 93 = .ok (.invokestatic 221, 3) := by decide +kernel
theorem dX12_items_96 : decode cX12_items 96 = .ok (.iload_n 1, 1) := by decide +kernel
theorem dX12_items_97 : decode cX12_items 97 = .ok (.iload 6, 2) := by decide +kernel
theorem dX12_items_99 : decode cX12_items 99 = .ok (.invokestatic 224, 3) := by decide +kernel
theorem dX12_items_102 : decode cX12_items 102 = .ok (.invokevirtual 227, 3) := by decide +kernel
theorem dX12_items_105 : decode cX12_items 105 = .ok (.iastore, 1) := by decide +kernel
theorem dX12_items_106 : decode cX12_items 106 = .ok (.aload_n 0, 1) := by decide +kernel
theorem dX12_items_107 : decode cX12_items 107 = .ok (.getfield 108, 3) := by decide +kernel
theorem dX12_items_110 : decode cX12_items 110 = .ok (.iconst (-1), 1) := by decide +kernel
theorem dX12_items_111 : decode cX12_items 111 = .ok (.if_icmp .ne 14, 3) := by decide +kernel
theorem dX12_items_114 : decode cX12_items 114 = .ok (.iload_n 1, 1) := by decide +kernel
theorem dX12_items_115 : decode cX12_items 115 = .ok (.aload_n 0, 1) := by decide +kernel
theorem dX12_items_116 : decode cX12_items 116 = .ok (.invokevirtual 120, 3) := by decide +kernel
theorem dX12_items_119 : decode cX12_items 119 = .ok (.invokestatic 214, 3) := by decide +kernel
theorem dX12_items_122 : decode cX12_items 122 = .ok (.goto 4, 3) := by decide +kernel
theorem dX12_items_125 : decode cX12_items 125 = .ok (.iconst (-1), 1) := by decide +kernel
theorem dX12_items_126 : decode cX12_items 126 = .ok (.istore 6, 2) := by decide +kernel
theorem dX12_items_128 : decode cX12_items 128 = .ok (.goto (-87), 3) := by decide +kernel
theorem dX12_items_131 : decode cX12_items 131 = .ok (.return_, 1) := by decide +kernel
theorem dX12_isWhole_0 : decode cX12_isWhole 0 = .ok (.iconst 0, 1) := by decide +kernel
theorem dX12_isWhole_1 : decode cX12_isWhole 1 = .ok (.istore_n 1, 1) := by decide +kernel
theorem dX12_isWhole_2 : decode cX12_isWhole 2 = .ok (.iconst 0, 1) := by decide +kernel
theorem dX12_isWhole_3 : decode cX12_isWhole 3 = .ok (.istore_n 2, 1) := by decide +kernel
theorem dX12_isWhole_4 : decode cX12_isWhole 4 = .ok (.iload_n 2, 1) := by decide +kernel
theorem dX12_isWhole_5 : decode cX12_isWhole 5 = .ok (.aload_n 0, 1) := by decide +kernel
theorem dX12_isWhole_6 : decode cX12_isWhole 6 = .ok (.getfield 230, 3) := by decide +kernel
theorem dX12_isWhole_9 : decode cX12_isWhole 9 = .ok (.if_icmp .ge 23, 3) := by decide +kernel
theorem dX12_isWhole_12 : decode cX12_isWhole 12 = .ok (.iload_n 1, 1) := by decide +kernel
theorem dX12_isWhole_13 : decode cX12_isWhole 13 = .ok (.iconst 1, 1) := by decide +kernel
theorem dX12_isWhole_14 : decode cX12_isWhole 14 = .ok (.aload_n 0, 1) := by decide +kernel
theorem dX12_isWhole_15 : decode cX12_isWhole 15 = .ok (.getfield 40, 3) := by decide +kernel
theorem dX12_isWhole_18 : decode cX12_isWhole 18 = .ok (.bipush 6, 2) := by decide +kernel
theorem dX12_isWhole_20 : decode cX12_isWhole 20 = .ok (.iload_n 2, 1) := by decide +kernel
theorem dX12_isWhole_21 : decode cX12_isWhole 21 = .ok (.imul, 1) := by decide +kernel
theorem dX12_isWhole_22 : decode cX12_isWhole 22 = .ok (.iaload, 1) := by decide +kernel
theorem dX12_isWhole_23 : decode cX12_isWhole 23 = .ok (.ishl, 1) := by decide +kernel
theorem dX12_isWhole_24 : decode cX12_isWhole 24 = .ok (.ior, 1) := by decide +kernel
theorem dX12_isWhole_25 : decode cX12_isWhole 25 = .ok (.istore_n 1, 1) := by decide +kernel
theorem dX12_isWhole_26 : decode cX12_isWhole 26 = .ok (.iinc 2 1, 3) := by decide +kernel
theorem dX12_isWhole_29 : decode cX12_isWhole 29 = .ok (.goto (-25), 3) := by decide +kernel
theorem dX12_isWhole_32 : decode cX12_isWhole 32 = .ok (.aload_n 0, 1) := by decide +kernel
theorem dX12_isWhole_33 : decode cX12_isWhole 33 = .ok (.getfield 230, 3) := by decide +kernel
theorem dX12_isWhole_36 : decode cX12_isWhole 36 = .ok (.iconst 1, 1) := by decide +kernel
theorem dX12_isWhole_37 : decode cX12_isWhole 37 = .ok (.if_icmp .le 12, 3) := by decide +kernel
theorem dX12_isWhole_40 : decode cX12_isWhole 40 = .ok (.iload_n 1, 1) := by decide +kernel
theorem dX12_isWhole_41 : decode cX12_isWhole 41 = .ok (.iconst 3, 1) := by decide +kernel
theorem dX12_isWhole_42 : decode cX12_isWhole 42 = .ok (.if_icmp .ne 7, 3) := by decide +kernel
theorem dX12_isWhole_45 : decode cX12_isWhole 45 = .ok (.iconst 1, 1) := by decide +kernel
theorem dX12_isWhole_46 : decode cX12_isWhole 46 = .ok (.goto 4, 3) := by decide +kernel
theorem dX12_isWhole_49 : decode cX12_isWhole 49 = .ok (.iconst 0, 1) := by decide +kernel
theorem dX12_isWhole_50 : decode cX12_isWhole 50 = .ok (.istore_n 2, 1) := by decide +kernel
theorem dX12_isWhole_51 : decode cX12_isWhole 51 = .ok (.iconst 0, 1) := by decide +kernel
theorem dX12_isWhole_52 : decode cX12_isWhole 52 = .ok (.istore_n 3, 1) := by decide +kernel
theorem dX12_isWhole_53 : decode cX12_isWhole 53 = .ok (.iload_n 3, 1) := by decide +kernel
theorem dX12_isWhole_54 : decode cX12_isWhole 54 = .ok (.aload_n 0, 1) := by decide +kernel
theorem dX12_isWhole_55 : decode cX12_isWhole 55 = .ok (.getfield 233, 3) := by decide +kernel
theorem dX12_isWhole_58 : decode cX12_isWhole 58 = .ok (.if_icmp .ge 54, 3) := by decide +kernel
theorem dX12_isWhole_61 : decode cX12_isWhole 61 = .ok (.iconst 0, 1) := by decide +kernel
theorem dX12_isWhole_62 : decode cX12_isWhole 62 = .ok (.istore 4, 2) := by decide +kernel
theorem dX12_isWhole_64 : decode cX12_isWhole 64 = .ok (.iload 4, 2) := by decide +kernel
theorem dX12_isWhole_66 : decode cX12_isWhole 66 = .ok (.iload_n 3, 1) := by decide +kernel
theorem dX12_isWhole_67 : decode cX12_isWhole 67 = .ok (.if_icmp .ge 39, 3) := by decide +kernel
theorem dX12_isWhole_70 : decode cX12_isWhole 70 = .ok (.iload_n 2, 1) := by decide +kernel
theorem dX12_isWhole_71 : decode cX12_isWhole 71 = .ok (.ifCond .eq 27, 3) := by decide +kernel
theorem dX12_isWhole_74 : decode cX12_isWhole 74 = .ok (.aload_n 0, 1) := by decide +kernel
theorem dX12_isWhole_75 : decode cX12_isWhole 75 = .ok (.getfield 43, 3) := by decide +kernel
theorem dX12_isWhole_78 : decode cX12_isWhole 78 = .ok (.iconst 2, 1) := by decide +kernel
theorem dX12_isWhole_79 : decode cX12_isWhole 79 = .ok (.iload 4, 2) := by decide +kernel
theorem dX12_isWhole_81 : decode cX12_isWhole 81 = .ok (.imul, 1) := by decide +kernel
theorem dX12_isWhole_82 : decode cX12_isWhole 82 = .ok (.iaload, 1) := by decide +kernel
theorem dX12_isWhole_83 : decode cX12_isWhole 83 = .ok (.aload_n 0, 1) := by decide +kernel
theorem dX12_isWhole_84 : decode cX12_isWhole 84 = .ok (.getfield 43, 3) := by decide +kernel
theorem dX12_isWhole_87 : decode cX12_isWhole 87 = .ok (.iconst 2, 1) := by decide +kernel
theorem dX12_isWhole_88 : decode cX12_isWhole 88 = .ok (.iload_n 3, 1) := by decide +kernel
theorem dX12_isWhole_89 : decode cX12_isWhole 89 = .ok (.imul, 1) := by decide +kernel
