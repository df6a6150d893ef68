theorem dX0_init_0 : decode cX0_init 0 = .ok (.aload_n 0, 1) := by decide +kernel
theorem dX0_init_1 : decode cX0_init 1 = .ok (.invokespecial 7, 3) := by decide +kernel
theorem dX0_init_4 : decode cX0_init 4 = .ok (.aload_n 0, 1) := by decide +kernel
theorem dX0_init_5 : decode cX0_init 5 = .ok (.bipush 21, 2) := by decide +kernel
theorem dX0_init_7 : decode cX0_init 7 = .ok (.newarray .int, 2) := by decide +kernel
theorem dX0_init_9 : decode cX0_init 9 = .ok (.putfield 13, 3) := by decide +kernel
theorem dX0_init_12 : decode cX0_init 12 = .ok (.aload_n 0, 1) := by decide +kernel
theorem dX0_init_13 : decode cX0_init 13 = .ok (.bipush 21, 2) := by decide +kernel
theorem dX0_init_15 : decode cX0_init 15 = .ok (.newarray .int, 2) := by decide +kernel
theorem dX0_init_17 : decode cX0_init 17 = .ok (.putfield 17, 3) := by decide +kernel
theorem dX0_init_20 : decode cX0_init 20 = .ok (.aload_n 0, 1) := by decide +kernel
theorem dX0_init_21 : decode cX0_init 21 = .ok (.bipush 75, 2) := by decide +kernel
theorem dX0_init_23 : decode cX0_init 23 = .ok (.newarray .int, 2) := by decide +kernel
theorem dX0_init_25 : decode cX0_init 25 = .ok (.putfield 20, 3) := by decide +kernel
theorem dX0_init_28 : decode cX0_init 28 = .ok (.aload_n 0, 1) := by decide +kernel
theorem dX0_init_29 : decode cX0_init 29 = .ok (.bipush 75, 2) := by decide +kernel
theorem dX0_init_31 : decode cX0_init 31 = .ok (.newarray .int, 2) := by decide +kernel
theorem dX0_init_33 : decode cX0_init 33 = .ok (.putfield 23, 3) := by decide +kernel
theorem dX0_init_36 : decode cX0_init 36 = .ok (.aload_n 0, 1) := by decide +kernel
theorem dX0_init_37 : decode cX0_init 37 = .ok (.bipush 75, 2) := by decide +kernel
theorem dX0_init_39 : decode cX0_init 39 = .ok (.newarray .int, 2) := by decide +kernel
theorem dX0_init_41 : decode cX0_init 41 = .ok (.putfield 26, 3) := by decide +kernel
theorem dX0_init_44 : decode cX0_init 44 = .ok (.aload_n 0, 1) := by decide +kernel
theorem dX0_init_45 : decode cX0_init 45 = .ok (.bipush 75, 2) := by decide +kernel
theorem dX0_init_47 : decode cX0_init 47 = .ok (.newarray .int, 2) := by decide +kernel
theorem dX0_init_49 : decode cX0_init 49 = .ok (.putfield 29, 3) := by decide +kernel
theorem dX0_init_52 : decode cX0_init 52 = .ok (.aload_n 0, 1) := by decide +kernel
theorem dX0_init_53 : decode cX0_init 53 = .ok (.aconst_null, 1) := by decide +kernel
theorem dX0_init_54 : decode cX0_init 54 = .ok (.putfield 32, 3) := by decide +kernel
theorem dX0_init_57 : decode cX0_init 57 = .ok (.aload_n 0, 1) := by decide +kernel
theorem dX0_init_58 : decode cX0_init 58 = .ok (.aconst_null, 1) := by decide +kernel
theorem dX0_init_59 : decode cX0_init 59 = .ok (.putfield 35, 3) := by decide +kernel
theorem dX0_init_62 : decode cX0_init 62 = .ok (.aload_n 0, 1) := by decide +kernel
theorem dX0_init_63 : decode cX0_init 63 = .ok (.iconst 0, 1) := by decide +kernel
theorem dX0_init_64 : decode cX0_init 64 = .ok (.putfield 38, 3) := by decide +kernel
theorem dX0_init_67 : decode cX0_init 67 = .ok (.aload_n 0, 1) := by decide +kernel
theorem dX0_init_68 : decode cX0_init 68 = .ok (.iconst 0, 1) := by decide +kernel
theorem dX0_init_69 : decode cX0_init 69 = .ok (.putfield 42, 3) := by decide +kernel
theorem dX0_init_72 : decode cX0_init 72 = .ok (.aload_n 0, 1) := by decide +kernel
theorem dX0_init_73 : decode cX0_init 73 = .ok (.iconst 0, 1) := by decide +kernel
theorem dX0_init_74 : decode cX0_init 74 = .ok (.putfield 45, 3) := by decide +kernel
theorem dX0_init_77 : decode cX0_init 77 = .ok (.aload_n 0, 1) := by decide +kernel
theorem dX0_init_78 : decode cX0_init 78 = .ok (.iconst 0, 1) := by decide +kernel
theorem dX0_init_79 : decode cX0_init 79 = .ok (.putfield 48, 3) := by decide +kernel
theorem dX0_init_82 : decode cX0_init 82 = .ok (.return_, 1) := by decide +kernel
theorem dX0_layOut_0 : decode cX0_layOut 0 = .ok (.iconst 0, 1) := by decide +kernel
theorem dX0_layOut_1 : decode cX0_layOut 1 = .ok (.istore_n 2, 1) := by decide +kernel
theorem dX0_layOut_2 : decode cX0_layOut 2 = .ok (.iconst 0, 1) := by decide +kernel
theorem dX0_layOut_3 : decode cX0_layOut 3 = .ok (.istore_n 3, 1) := by decide +kernel
theorem dX0_layOut_4 : decode cX0_layOut 4 = .ok (.iload_n 3, 1) := by decide +kernel
theorem dX0_layOut_5 : decode cX0_layOut 5 = .ok (.bipush 20, 2) := by decide +kernel
theorem dX0_layOut_7 : decode cX0_layOut 7 = .ok (.if_icmp .gt 83, 3) := by decide +kernel
theorem dX0_layOut_10 : decode cX0_layOut 10 = .ok (.aload_n 0, 1) := by decide +kernel
theorem dX0_layOut_11 : decode cX0_layOut 11 = .ok (.getfield 13, 3) := by decide +kernel
theorem dX0_layOut_14 : decode cX0_layOut 14 = .ok (.iload_n 3, 1) := by decide +kernel
theorem dX0_layOut_15 : decode cX0_layOut 15 = .ok (.iload_n 2, 1) := by decide +kernel
theorem dX0_layOut_16 : decode cX0_layOut 16 = .ok (.iastore, 1) := by decide +kernel
theorem dX0_layOut_17 : decode cX0_layOut 17 = .ok (.iconst 0, 1) := by decide +kernel
theorem dX0_layOut_18 : decode cX0_layOut 18 = .ok (.istore 4, 2) := by decide +kernel
theorem dX0_layOut_20 : decode cX0_layOut 20 = .ok (.iload 4, 2) := by decide +kernel
theorem dX0_layOut_22 : decode cX0_layOut 22 = .ok (.aload_n 1, 1) := by decide +kernel
theorem dX0_layOut_23 : decode cX0_layOut 23 = .ok (.getfield 51, 3) := by decide +kernel
theorem dX0_layOut_26 : decode cX0_layOut 26 = .ok (.iload_n 3, 1) := by decide +kernel
theorem dX0_layOut_27 : decode cX0_layOut 27 = .ok (.iaload, 1) := by decide +kernel
theorem dX0_layOut_28 : decode cX0_layOut 28 = .ok (.if_icmp .gt 47, 3) := by decide +kernel
theorem dX0_layOut_31 : decode cX0_layOut 31 = .ok (.iload_n 2, 1) := by decide +kernel
theorem dX0_layOut_32 : decode cX0_layOut 32 = .ok (.bipush 75, 2) := by decide +kernel
theorem dX0_layOut_34 : decode cX0_layOut 34 = .ok (.if_icmp .ge 41, 3) := by decide +kernel
theorem dX0_layOut_37 : decode cX0_layOut 37 = .ok (.aload_n 0, 1) := by decide +kernel
theorem dX0_layOut_38 : decode cX0_layOut 38 = .ok (.getfield 20, 3) := by decide +kernel
theorem dX0_layOut_41 : decode cX0_layOut 41 = .ok (.iload_n 2, 1) := by decide +kernel
theorem dX0_layOut_42 : decode cX0_layOut 42 = .ok (.iload_n 3, 1) := by decide +kernel
theorem dX0_layOut_43 : decode cX0_layOut 43 = .ok (.iastore, 1) := by decide +kernel
theorem dX0_layOut_44 : decode cX0_layOut 44 = .ok (.aload_n 0, 1) := by decide +kernel
theorem dX0_layOut_45 : decode cX0_layOut 45 = .ok (.getfield 23, 3) := by decide +kernel
theorem dX0_layOut_48 : decode cX0_layOut 48 = .ok (.iload_n 2, 1) := by decide +kernel
theorem dX0_layOut_49 : decode cX0_layOut 49 = .ok (.iload_n 3, 1) := by decide +kernel
theorem dX0_layOut_50 : decode cX0_layOut 50 = .ok (.ifCond .ne 7, 3) := by decide +kernel
theorem dX0_layOut_53 : decode cX0_layOut 53 = .ok (.iconst 0, 1) := by decide +kernel
theorem dX0_layOut_54 : decode cX0_layOut 54 = .ok (.goto 11, 3) := by decide +kernel
theorem dX0_layOut_57 : decode cX0_layOut 57 = .ok (.aload_n 0, 1) := by decide +kernel
theorem dX0_layOut_58 : decode cX0_layOut 58 = .ok (.getfield 13, 3) := by decide +kernel
theorem dX0_layOut_61 : decode cX0_layOut 61 = .ok (.iload_n 3, 1) := by decide +kernel
theorem dX0_layOut_62 : decode cX0_layOut 62 = .ok (.iaload, 1) := by decide +kernel
theorem dX0_layOut_63 : decode cX0_layOut 63 = .ok (.iconst 1, 1) := by decide +kernel
theorem dX0_layOut_64 : decode cX0_layOut 64 = .ok (.isub, 1) := by decide +kernel
theorem dX0_layOut_65 : decode cX0_layOut 65 = .ok (.iastore, 1) := by decide +kernel
theorem dX0_layOut_66 : decode cX0_layOut 66 = .ok (.iinc 2 1, 3) := by decide +kernel
theorem dX0_layOut_69 : decode cX0_layOut 69 = .ok (.iinc 4 1, 3) := by decide +kernel
theorem dX0_layOut_72 : decode cX0_layOut 72 = .ok (.goto (-52), 3) := by decide +kernel
theorem dX0_layOut_75 : decode cX0_layOut 75 = .ok (.aload_n 0, 1) := by decide +kernel
theorem dX0_layOut_76 : decode cX0_layOut 76 = .ok (.getfield 17, 3) := by decide +kernel
theorem dX0_layOut_79 : decode cX0_layOut 79 = .ok (.iload_n 3, 1) := by decide +kernel
theorem dX0_layOut_80 : decode cX0_layOut 80 = .ok (.iload_n 2, 1) := by decide +kernel
theorem dX0_layOut_81 : decode cX0_layOut 81 = .ok (.iconst 1, 1) := by decide +kernel
theorem dX0_layOut_82 : decode cX0_layOut 82 = .ok (.isub, 1) := by decide +kernel
theorem dX0_layOut_83 : decode cX0_layOut 83 = .ok (.iastore, 1) := by decide +kernel
theorem dX0_layOut_84 : decode cX0_layOut 84 = .ok (.iinc 3 1, 3) := by decide +kernel
theorem dX0_layOut_87 : decode cX0_layOut 87 = .ok (.goto (-83), 3) := by decide +kernel
theorem dX0_layOut_90 : decode cX0_layOut 90 = .ok (.aload_n 0, 1) := by decide +kernel
theorem dX0_layOut_91 : decode cX0_layOut 91 = .ok (.iconst 0, 1) := by decide +kernel
theorem dX0_layOut_92 : decode cX0_layOut 92 = .ok (.putfield 38, 3) := by decide +kernel
theorem dX0_layOut_95 : decode cX0_layOut 95 = .ok (.aload_n 0, 1) := by decide +kernel
theorem dX0_layOut_96 : decode cX0_layOut 96 = .ok (.iconst 0, 1) := by decide +kernel
theorem dX0_layOut_97 : decode cX0_layOut 97 = .ok (.putfield 42, 3) := by decide +kernel
theorem dX0_layOut_100 : decode cX0_layOut 100 = .ok (.return_, 1) := by decide +kernel
theorem dX0_place_0 : decode cX0_place 0 = .ok (.iload_n 1, 1) := by decide +kernel
theorem dX0_place_1 : decode cX0_place 1 = .ok (.ifCond .lt 20, 3) := by decide +kernel
theorem dX0_place_4 : decode cX0_place 4 = .ok (.iload_n 1, 1) := by decide +kernel
theorem dX0_place_5 : decode cX0_place 5 = .ok (.bipush 20, 2) := by decide +kernel
theorem dX0_place_7 : decode cX0_place 7 = .ok (.if_icmp .gt 14, 3) := by decide +kernel
theorem dX0_place_10 : decode cX0_place 10 = .ok (.aload_n 0, 1) := by decide +kernel
theorem dX0_place_11 : decode cX0_place 11 = .ok (.getfield 13, 3) := by decide +kernel
theorem dX0_place_14 : decode cX0_place 14 = .ok (.iload_n 1, 1) := by decide +kernel
theorem dX0_place_15 : decode cX0_place 15 = .ok (.iaload, 1) := by decide +kernel
theorem dX0_place_16 : decode cX0_place 16 = .ok (.iload_n 2, 1) := by decide +kernel
theorem dX0_place_17 : decode cX0_place 17 = .ok (.iadd, 1) := by decide +kernel
theorem dX0_place_18 : decode cX0_place 18 = .ok (.goto 4, 3) := by decide +kernel
theorem dX0_place_21 : decode cX0_place 21 = .ok (.iconst 0, 1) := by decide +kernel
theorem dX0_place_22 : decode cX0_place 22 = .ok (.ireturn, 1) := by decide +kernel
theorem dX0_prepare_0 : decode cX0_prepare 0 = .ok (.iload_n 1, 1) := by decide +kernel
theorem dX0_prepare_1 : decode cX0_prepare 1 = .ok (.aload_n 0, 1) := by decide +kernel
theorem dX0_prepare_2 : decode cX0_prepare 2 = .ok (.getfield 38, 3) := by decide +kernel
theorem dX0_prepare_5 : decode cX0_prepare 5 = .ok (.if_icmp .ne 15, 3) := by decide +kernel
theorem dX0_prepare_8 : decode cX0_prepare 8 = .ok (.iload_n 2, 1) := by decide +kernel
theorem dX0_prepare_9 : decode cX0_prepare 9 = .ok (.aload_n 0, 1) := by decide +kernel
theorem dX0_prepare_10 : decode cX0_prepare 10 = .ok (.getfield 42, 3) := by decide +kernel
theorem dX0_prepare_13 : decode cX0_prepare 13 = .ok (.if_icmp .ne 7, 3) := by decide +kernel
theorem dX0_prepare_16 : decode cX0_prepare 16 = .ok (.iconst 1, 1) := by decide +kernel
theorem dX0_prepare_17 : decode cX0_prepare 17 = .ok (.goto 4, 3) := by decide +kernel
theorem dX0_prepare_20 : decode cX0_prepare 20 = .ok (.iconst 0, 1) := by decide +kernel
theorem dX0_prepare_21 : decode cX0_prepare 21 = .ok (.istore 5, 2) := by decide +kernel
theorem dX0_prepare_23 : decode cX0_prepare 23 = .ok (.iload 5, 2) := by decide +kernel
theorem dX0_prepare_25 : decode cX0_prepare 25 = .ok (.ifCond .eq 21, 3) := by decide +kernel
theorem dX0_prepare_28 : decode cX0_prepare 28 = .ok (.iload_n 3, 1) := by decide +kernel
theorem dX0_prepare_29 : decode cX0_prepare 29 = .ok (.aload_n 0, 1) := by decide +kernel
theorem dX0_prepare_30 : decode cX0_prepare 30 = .ok (.getfield 45, 3) := by decide +kernel
theorem dX0_prepare_33 : decode cX0_prepare 33 = .ok (.if_icmp .gt 13, 3) := by decide +kernel
theorem dX0_prepare_36 : decode cX0_prepare 36 = .ok (.iload 4, 2) := by decide +kernel
theorem dX0_prepare_38 : decode cX0_prepare 38 = .ok (.aload_n 0, 1) := by decide +kernel
theorem dX0_prepare_39 : decode cX0_prepare 39 = .ok (.getfield 48, 3) := by decide +kernel
theorem dX0_prepare_42 : decode cX0_prepare 42 = .ok (.if_icmp .gt 4, 3) := by decide +kernel
theorem dX0_prepare_45 : decode cX0_prepare 45 = .ok (.return_, 1) := by decide +kernel
theorem dX0_prepare_46 : decode cX0_prepare 46 = .ok (.aload_n 0, 1) := by decide +kernel
theorem dX0_prepare_47 : decode cX0_prepare 47 = .ok (.getfield 32, 3) := by decide +kernel
theorem dX0_prepare_50 : decode cX0_prepare 50 = .ok (.ifnull 10, 3) := by decide +kernel
theorem dX0_prepare_53 : decode cX0_prepare 53 = .ok (.aload_n 0, 1) := by decide +kernel
theorem dX0_prepare_54 : decode cX0_prepare 54 = .ok (.getfield 35, 3) := by decide +kernel
theorem dX0_prepare_57 : decode cX0_prepare 57 = .ok (.ifnonnull 21, 3) := by decide +kernel
theorem dX0_prepare_60 : decode cX0_prepare 60 = .ok (.aload_n 0, 1) := by decide +kernel
theorem dX0_prepare_61 : decode cX0_prepare 61 = .ok (.sipush 5625, 3) := by decide +kernel
theorem dX0_prepare_64 : decode cX0_prepare 64 = .ok (.newarray .int, 2) := by decide +kernel
theorem dX0_prepare_66 : decode cX0_prepare 66 = .ok (.putfield 32, 3) := by decide +kernel
theorem dX0_prepare_69 : decode cX0_prepare 69 = .ok (.aload_n 0, 1) := by decide +kernel
theorem dX0_prepare_70 : decode cX0_prepare 70 = .ok (.sipush 5625, 3) := by decide +kernel
theorem dX0_prepare_73 : decode cX0_prepare 73 = .ok (.newarray .int, 2) := by decide +kernel
theorem dX0_prepare_75 : decode cX0_prepare 75 = .ok (.putfield 35, 3) := by decide +kernel
theorem dX0_prepare_78 : decode cX0_prepare 78 = .ok (.aload_n 0, 1) := by decide +kernel
theorem dX0_prepare_79 : decode cX0_prepare 79 = .ok (.iload_n 1, 1) := by decide +kernel
theorem dX0_prepare_80 : decode cX0_prepare 80 = .ok (.putfield 38, 3) := by decide +kernel
theorem dX0_prepare_83 : decode cX0_prepare 83 = .ok (.aload_n 0, 1) := by decide +kernel
theorem dX0_prepare_84 : decode cX0_prepare 84 = .ok (.iload_n 2, 1) := by decide +kernel
theorem dX0_prepare_85 : decode cX0_prepare 85 = .ok (.putfield 42, 3) := by decide +kernel
theorem dX0_prepare_88 : decode cX0_prepare 88 = .ok (.aload_n 0, 1) := by decide +kernel
theorem dX0_prepare_89 : decode cX0_prepare 89 = .ok (.iload_n 3, 1) := by decide +kernel
theorem dX0_prepare_90 : decode cX0_prepare 90 = .ok (.bipush 74, 2) := by decide +kernel
theorem dX0_prepare_92 : decode cX0_prepare 92 = .ok (.invokestatic 54, 3) := by decide +kernel
theorem dX0_prepare_95 : decode cX0_prepare 95 = .ok (.putfield 45, 3) := by decide +kernel
theorem dX0_prepare_98 : decode cX0_prepare 98 = .ok (.aload_n 0, 1) := by decide +kernel
theorem dX0_prepare_99 : decode cX0_prepare 99 = .ok (.iload 4, 2) := by decide +kernel
theorem dX0_prepare_101 : decode cX0_prepare 101 = .ok (.bipush 74, 2) := by decide +kernel
theorem dX0_prepare_103 : decode cX0_prepare 103 = .ok (.invokestatic 54, 3) := by decide +kernel
theorem dX0_prepare_106 : decode cX0_prepare 106 = .ok (.putfield 48, 3) := by decide +kernel
theorem dX0_prepare_109 : decode cX0_prepare 109 = .ok (.aload_n 0, 1) := by decide +kernel
theorem dX0_prepare_110 : decode cX0_prepare 110 = .ok (.aload_n 0, 1) := by decide +kernel
theorem dX0_prepare_111 : decode cX0_prepare 111 = .ok (.getfield 26, 3) := by decide +kernel
theorem dX0_prepare_114 : decode cX0_prepare 114 = .ok (.iload_n 1, 1) := by decide +kernel
theorem dX0_prepare_115 : decode cX0_prepare 115 = .ok (.invokevirtual 60, 3) := by decide +kernel
theorem dX0_prepare_118 : decode cX0_prepare 118 = .ok (.aload_n 0, 1) := by decide +kernel
theorem dX0_prepare_119 : decode cX0_prepare 119 = .ok (.aload_n 0, 1) := by decide +kernel
theorem dX0_prepare_120 : decode cX0_prepare 120 = .ok (.getfield 29, 3) := by decide +kernel
theorem dX0_prepare_123 : decode cX0_prepare 123 = .ok (.iload_n 2, 1) := by decide +kernel
theorem dX0_prepare_124 : decode cX0_prepare 124 = .ok (.invokevirtual 60, 3) := by decide +kernel
theorem dX0_prepare_127 : decode cX0_prepare 127 = .ok (.aload_n 0, 1) := by decide +kernel
theorem dX0_prepare_128 : decode cX0_prepare 128 = .ok (.invokevirtual 64, 3) := by decide +kernel
theorem dX0_prepare_131 : decode cX0_prepare 131 = .ok (.return_, 1) := by decide +kernel
theorem dX0_findPressed_0 : decode cX0_findPressed 0 = .ok (.iconst 0, 1) := by decide +kernel
theorem dX0_findPressed_1 : decode cX0_findPressed 1 = .ok (.istore_n 3, 1) := by decide +kernel
theorem dX0_findPressed_2 : decode cX0_findPressed 2 = .ok (.iload_n 3, 1) := by decide +kernel
theorem dX0_findPressed_3 : decode cX0_findPressed 3 = .ok (.bipush 75, 2) := by decide +kernel
theorem dX0_findPressed_5 : decode cX0_findPressed 5 = .ok (.if_icmp .ge 29, 3) := by decide +kernel
theorem dX0_findPressed_8 : decode cX0_findPressed 8 = .ok (.aload_n 1, 1) := by decide +kernel
theorem dX0_findPressed_9 : decode cX0_findPressed 9 = .ok (.iload_n 3, 1) := by decide +kernel
theorem dX0_findPressed_10 : decode cX0_findPressed 10 = .ok (.aload_n 0, 1) := by decide +kernel
theorem dX0_findPressed_11 : decode cX0_findPressed 11 = .ok (.getfield 17, 3) := by decide +kernel
theorem dX0_findPressed_14 : decode cX0_findPressed 14 = .ok (.iconst 0, 1) := by decide +kernel
theorem dX0_findPressed_15 : decode cX0_findPressed 15 = .ok (.aload_n 0, 1) := by decide +kernel
theorem dX0_findPressed_16 : decode cX0_findPressed 16 = .ok (.getfield 20, 3) := by decide +kernel
theorem dX0_findPressed_19 : decode cX0_findPressed 19 = .ok (.iload_n 3, 1) := by decide +kernel
theorem dX0_findPressed_20 : decode cX0_findPressed 20 = .ok (.iaload, 1) := by decide +kernel
theorem dX0_findPressed_21 : decode cX0_findPressed 21 = .ok (.iload_n 2, 1) := by decide +kernel
theorem dX0_findPressed_22 : decode cX0_findPressed 22 = .ok (.isub, 1) := by decide +kernel
theorem dX0_findPressed_23 : decode cX0_findPressed 23 = .ok (.invokestatic 67, 3) := by decide +kernel
theorem dX0_findPressed_26 : decode cX0_findPressed 26 = .ok (.iaload, 1) := by decide +kernel
theorem dX0_findPressed_27 : decode cX0_findPressed 27 = .ok (.iastore, 1) := by decide +kernel
theorem dX0_findPressed_28 : decode cX0_findPressed 28 = .ok (.iinc 3 1, 3) := by decide +kernel
theorem dX0_findPressed_31 : decode cX0_findPressed 31 = .ok (.goto (-29), 3) := by decide +kernel
theorem dX0_findPressed_34 : decode cX0_findPressed 34 = .ok (.return_, 1) := by decide +kernel
theorem dX0_settleAll_0 : decode cX0_settleAll 0 = .ok (.iconst 1, 1) := by decide +kernel
theorem dX0_settleAll_1 : decode cX0_settleAll 1 = .ok (.istore_n 1, 1) := by decide +kernel
theorem dX0_settleAll_2 : decode cX0_settleAll 2 = .ok (.iload_n 1, 1) := by decide +kernel
theorem dX0_settleAll_3 : decode cX0_settleAll 3 = .ok (.aload_n 0, 1) := by decide +kernel
theorem dX0_settleAll_4 : decode cX0_settleAll 4 = .ok (.getfield 45, 3) := by decide +kernel
theorem dX0_settleAll_7 : decode cX0_settleAll 7 = .ok (.if_icmp .gt 79, 3) := by decide +kernel
theorem dX0_settleAll_10 : decode cX0_settleAll 10 = .ok (.iconst 1, 1) := by decide +kernel
theorem dX0_settleAll_11 : decode cX0_settleAll 11 = .ok (.istore_n 2, 1) := by decide +kernel
theorem dX0_settleAll_12 : decode cX0_settleAll 12 = .ok (.iload_n 2, 1) := by decide +kernel
theorem dX0_settleAll_13 : decode cX0_settleAll 13 = .ok (.aload_n 0, 1) := by decide +kernel
theorem dX0_settleAll_14 : decode cX0_settleAll 14 = .ok (.getfield 48, 3) := by decide +kernel
theorem dX0_settleAll_17 : decode cX0_settleAll 17 = .ok (.if_icmp .gt 63, 3) := by decide +kernel
theorem dX0_settleAll_20 : decode cX0_settleAll 20 = .ok (.aload_n 0, 1) := by decide +kernel
theorem dX0_settleAll_21 : decode cX0_settleAll 21 = .ok (.getfield 32, 3) := by decide +kernel
theorem dX0_settleAll_24 : decode cX0_settleAll 24 = .ok (.iload_n 1, 1) := by decide +kernel
theorem dX0_settleAll_25 : decode cX0_settleAll 25 = .ok (.bipush 75, 2) := by decide +kernel
theorem dX0_settleAll_27 : decode cX0_settleAll 27 = .ok (.imul, 1) := by decide +kernel
theorem dX0_settleAll_28 : decode cX0_settleAll 28 = .ok (.iload_n 2, 1) := by decide +kernel
theorem dX0_settleAll_29 : decode cX0_settleAll 29 = .ok (.iadd, 1) := by decide +kernel
theorem dX0_settleAll_30 : decode cX0_settleAll 30 = .ok (.aload_n 0, 1) := by decide +kernel
theorem dX0_settleAll_31 : decode cX0_settleAll 31 = .ok (.iload_n 1, 1) := by decide +kernel
theorem dX0_settleAll_32 : decode cX0_settleAll 32 = .ok (.iload_n 2, 1) := by decide +kernel
theorem dX0_settleAll_33 : decode cX0_settleAll 33 = .ok (.aload_n 0, 1) := by decide +kernel
theorem dX0_settleAll_34 : decode cX0_settleAll 34 = .ok (.getfield 26, 3) := by decide +kernel
theorem dX0_settleAll_37 : decode cX0_settleAll 37 = .ok (.iload_n 2, 1) := by decide +kernel
theorem dX0_settleAll_38 : decode cX0_settleAll 38 = .ok (.iaload, 1) := by decide +kernel
theorem dX0_settleAll_39 : decode cX0_settleAll 39 = .ok (.aload_n 0, 1) := by decide +kernel
theorem dX0_settleAll_40 : decode cX0_settleAll 40 = .ok (.getfield 35, 3) := by decide +kernel
theorem dX0_settleAll_43 : decode cX0_settleAll 43 = .ok (.invokevirtual 70, 3) := by decide +kernel
theorem dX0_settleAll_46 : decode cX0_settleAll 46 = .ok (.iastore, 1) := by decide +kernel
theorem dX0_settleAll_47 : decode cX0_settleAll 47 = .ok (.aload_n 0, 1) := by decide +kernel
theorem dX0_settleAll_48 : decode cX0_settleAll 48 = .ok (.getfield 35, 3) := by decide +kernel
theorem dX0_settleAll_51 : decode cX0_settleAll 51 = .ok (.iload_n 2, 1) := by decide +kernel
theorem dX0_settleAll_52 : decode cX0_settleAll 52 = .ok (.bipush 75, 2) := by decide +kernel
theorem dX0_settleAll_54 : decode cX0_settleAll 54 = .ok (.imul, 1) := by decide +kernel
theorem dX0_settleAll_55 : decode cX0_settleAll 55 = .ok (.iload_n 1, 1) := by decide +kernel
theorem dX0_settleAll_56 : decode cX0_settleAll 56 = .ok (.iadd, 1) := by decide +kernel
theorem dX0_settleAll_57 : decode cX0_settleAll 57 = .ok (.aload_n 0, 1) := by decide +kernel
theorem dX0_settleAll_58 : decode cX0_settleAll 58 = .ok (.iload_n 2, 1) := by decide +kernel
theorem dX0_settleAll_59 : decode cX0_settleAll 59 = .ok (.iload_n 1, 1) := by decide +kernel
theorem dX0_settleAll_60 : decode cX0_settleAll 60 = .ok (.aload_n 0, 1) := by decide +kernel
theorem dX0_settleAll_61 : decode cX0_settleAll 61 = .ok (.getfield 29, 3) := by decide +kernel
theorem dX0_settleAll_64 : decode cX0_settleAll 64 = .ok (.iload_n 1, 1) := by decide +kernel
theorem dX0_settleAll_65 : decode cX0_settleAll 65 = .ok (.iaload, 1) := by decide +kernel
theorem dX0_settleAll_66 : decode cX0_settleAll 66 = .ok (.aload_n 0, 1) := by decide +kernel
theorem dX0_settleAll_67 : decode cX0_settleAll 67 = .ok (.getfield 32, 3) := by decide +kernel
theorem dX0_settleAll_70 : decode cX0_settleAll 70 = .ok (.invokevirtual 70, 3) := by decide +kernel
theorem dX0_settleAll_73 : decode cX0_settleAll 73 = .ok (.iastore, 1) := by decide +kernel
theorem dX0_settleAll_74 : decode cX0_settleAll 74 = .ok (.iinc 2 1, 3) := by decide +kernel
theorem dX0_settleAll_77 : decode cX0_settleAll 77 = .ok (.goto (-65), 3) := by decide +kernel
theorem dX0_settleAll_80 : decode cX0_settleAll 80 = .ok (.iinc 1 1, 3) := by decide +kernel
theorem dX0_settleAll_83 : decode cX0_settleAll 83 = .ok (.goto (-81), 3) := by decide +kernel
theorem dX0_settleAll_86 : decode cX0_settleAll 86 = .ok (.return_, 1) := by decide +kernel
theorem dX0_best_0 : decode cX0_best 0 = .ok (.aload_n 0, 1) := by decide +kernel
theorem dX0_best_1 : decode cX0_best 1 = .ok (.getfield 23, 3) := by decide +kernel
theorem dX0_best_4 : decode cX0_best 4 = .ok (.iload_n 1, 1) := by decide +kernel
theorem dX0_best_5 : decode cX0_best 5 = .ok (.iaload, 1) := by decide +kernel
theorem dX0_best_6 : decode cX0_best 6 = .ok (.istore 5, 2) := by decide +kernel
theorem dX0_best_8 : decode cX0_best 8 = .ok (.iconst 4, 1) := by decide +kernel
theorem dX0_best_9 : decode cX0_best 9 = .ok (.iload 5, 2) := by decide +kernel
theorem dX0_best_11 : decode cX0_best 11 = .ok (.ifCond .ne 9, 3) := by decide +kernel
theorem dX0_best_14 : decode cX0_best 14 = .ok (.sipush (-999), 3) := by decide +kernel
theorem dX0_best_17 : decode cX0_best 17 = .ok (.goto 16, 3) := by decide +kernel
theorem dX0_best_20 : decode cX0_best 20 = .ok (.aload 4, 2) := by decide +kernel
theorem dX0_best_22 : decode cX0_best 22 = .ok (.iload_n 2, 1) := by decide +kernel
theorem dX0_best_23 : decode cX0_best 23 = .ok (.bipush 75, 2) := by decide +kernel
theorem dX0_best_25 : decode cX0_best 25 = .ok (.imul, 1) := by decide +kernel
theorem dX0_best_26 : decode cX0_best 26 = .ok (.iload 5, 2) := by decide +kernel
theorem dX0_best_28 : decode cX0_best 28 = .ok (.iadd, 1) := by decide +kernel
theorem dX0_best_29 : decode cX0_best 29 = .ok (.iaload, 1) := by decide +kernel
theorem dX0_best_30 : decode cX0_best 30 = .ok (.invokestatic 74, 3) := by decide +kernel
theorem dX0_best_33 : decode cX0_best 33 = .ok (.imul, 1) := by decide +kernel
theorem dX0_best_34 : decode cX0_best 34 = .ok (.iconst 2, 1) := by decide +kernel
theorem dX0_best_35 : decode cX0_best 35 = .ok (.iadd, 1) := by decide +kernel
theorem dX0_best_36 : decode cX0_best 36 = .ok (.iconst 0, 1) := by decide +kernel
theorem dX0_best_37 : decode cX0_best 37 = .ok (.isub, 1) := by decide +kernel
theorem dX0_best_38 : decode cX0_best 38 = .ok (.istore 6, 2) := by decide +kernel
theorem dX0_best_40 : decode cX0_best 40 = .ok (.iload_n 1, 1) := by decide +kernel
theorem dX0_best_41 : decode cX0_best 41 = .ok (.iconst 1, 1) := by decide +kernel
theorem dX0_best_42 : decode cX0_best 42 = .ok (.isub, 1) := by decide +kernel
theorem dX0_best_43 : decode cX0_best 43 = .ok (.iload 5, 2) := by decide +kernel
theorem dX0_best_45 : decode cX0_best 45 = .ok (.if_icmp .le 7, 3) := by decide +kernel
theorem dX0_best_48 : decode cX0_best 48 = .ok (.iconst 1, 1) := by decide +kernel
theorem dX0_best_49 : decode cX0_best 49 = .ok (.goto 4, 3) := by decide +kernel
theorem dX0_best_52 : decode cX0_best 52 = .ok (.iconst 0, 1) := by decide +kernel
theorem dX0_best_53 : decode cX0_best 53 = .ok (.istore 7, 2) := by decide +kernel
theorem dX0_best_55 : decode cX0_best 55 = .ok (.iload 7, 2) := by decide +kernel
theorem dX0_best_57 : decode cX0_best 57 = .ok (.ifCond .eq 67, 3) := by decide +kernel
theorem dX0_best_60 : decode cX0_best 60 = .ok (.aload 4, 2) := by decide +kernel
theorem dX0_best_62 : decode cX0_best 62 = .ok (.iload_n 2, 1) := by decide +kernel
theorem dX0_best_63 : decode cX0_best 63 = .ok (.bipush 75, 2) := by decide +kernel
theorem dX0_best_65 : decode cX0_best 65 = .ok (.imul, 1) := by decide +kernel
theorem dX0_best_66 : decode cX0_best 66 = .ok (.iload_n 1, 1) := by decide +kernel
theorem dX0_best_67 : decode cX0_best 67 = .ok (.iadd, 1) := by decide +kernel
theorem dX0_best_68 : decode cX0_best 68 = .ok (.iconst 1, 1) := by decide +kernel
theorem dX0_best_69 : decode cX0_best 69 = .ok (.isub, 1) := by decide +kernel
theorem dX0_best_70 : decode cX0_best 70 = .ok (.iaload, 1) := by decide +kernel
theorem dX0_best_71 : decode cX0_best 71 = .ok (.invokestatic 74, 3) := by decide +kernel
theorem dX0_best_74 : decode cX0_best 74 = .ok (.istore 8, 2) := by decide +kernel
theorem dX0_best_76 : decode cX0_best 76 = .ok (.iload_n 3, 1) := by decide +kernel
theorem dX0_best_77 : decode cX0_best 77 = .ok (.ifCond .ne 9, 3) := by decide +kernel
theorem dX0_best_80 : decode cX0_best 80 = .ok (.sipush 999, 3) := by decide +kernel
theorem dX0_best_83 : decode cX0_best 83 = .ok (.goto 17, 3) := by decide +kernel
theorem dX0_best_86 : decode cX0_best 86 = .ok (.aload 4, 2) := by decide +kernel
theorem dX0_best_88 : decode cX0_best 88 = .ok (.iload_n 3, 1) := by decide +kernel
theorem dX0_best_89 : decode cX0_best 89 = .ok (.bipush 75, 2) := by decide +kernel
theorem dX0_best_91 : decode cX0_best 91 = .ok (.imul, 1) := by decide +kernel
theorem dX0_best_92 : decode cX0_best 92 = .ok (.iload_n 1, 1) := by decide +kernel
theorem dX0_best_93 : decode cX0_best 93 = .ok (.iadd, 1) := by decide +kernel
theorem dX0_best_94 : decode cX0_best 94 = .ok (.iconst 1, 1) := by decide +kernel
theorem dX0_best_95 : decode cX0_best 95 = .ok (.isub, 1) := by decide +kernel
theorem dX0_best_96 : decode cX0_best 96 = .ok (.iaload, 1) := by decide +kernel
theorem dX0_best_97 : decode cX0_best 97 = .ok (.invokestatic 74, 3) := by decide +kernel
theorem dX0_best_100 : decode cX0_best 100 = .ok (.istore 9, 2) := by decide +kernel
theorem dX0_best_102 : decode cX0_best 102 = .ok (.iload 6, 2) := by decide +kernel
theorem dX0_best_104 : decode cX0_best 104 = .ok (.iconst 4, 1) := by decide +kernel
theorem dX0_best_105 : decode cX0_best 105 = .ok (.iload 8, 2) := by decide +kernel
theorem dX0_best_107 : decode cX0_best 107 = .ok (.imul, 1) := by decide +kernel
theorem dX0_best_108 : decode cX0_best 108 = .ok (.iconst 2, 1) := by decide +kernel
theorem dX0_best_109 : decode cX0_best 109 = .ok (.iadd, 1) := by decide +kernel
theorem dX0_best_110 : decode cX0_best 110 = .ok (.iconst 1, 1) := by decide +kernel
theorem dX0_best_111 : decode cX0_best 111 = .ok (.isub, 1) := by decide +kernel
theorem dX0_best_112 : decode cX0_best 112 = .ok (.iconst 4, 1) := by decide +kernel
theorem dX0_best_113 : decode cX0_best 113 = .ok (.iload 9, 2) := by decide +kernel
theorem dX0_best_115 : decode cX0_best 115 = .ok (.imul, 1) := by decide +kernel
theorem dX0_best_116 : decode cX0_best 116 = .ok (.invokestatic 67, 3) := by decide +kernel
theorem dX0_best_119 : decode cX0_best 119 = .ok (.invokestatic 67, 3) := by decide +kernel
theorem dX0_best_122 : decode cX0_best 122 = .ok (.istore 6, 2) := by decide +kernel
theorem dX0_best_124 : decode cX0_best 124 = .ok (.iload 6, 2) := by decide +kernel
theorem dX0_best_126 : decode cX0_best 126 = .ok (.ireturn, 1) := by decide +kernel
theorem dX0_answered_0 : decode cX0_answered 0 = .ok (.iload_n 0, 1) := by decide +kernel
theorem dX0_answered_1 : decode cX0_answered 1 = .ok (.iconst 2, 1) := by decide +kernel
theorem dX0_answered_2 : decode cX0_answered 2 = .ok (.ishr, 1) := by decide +kernel
theorem dX0_answered_3 : decode cX0_answered 3 = .ok (.istore_n 1, 1) := by decide +kernel
theorem dX0_answered_4 : decode cX0_answered 4 = .ok (.iload_n 1, 1) := by decide +kernel
theorem dX0_answered_5 : decode cX0_answered 5 = .ok (.ifCond .le 9, 3) := by decide +kernel
theorem dX0_answered_8 : decode cX0_answered 8 = .ok (.iconst 1, 1) := by decide +kernel
theorem dX0_answered_9 : decode cX0_answered 9 = .ok (.iload_n 1, 1) := by decide +kernel
theorem dX0_answered_10 : decode cX0_answered 10 = .ok (.isub, 1) := by decide +kernel
theorem dX0_answered_11 : decode cX0_answered 11 = .ok (.goto 6, 3) := by decide +kernel
theorem dX0_answered_14 : decode cX0_answered 14 = .ok (.iconst (-1), 1) := by decide +kernel
theorem dX0_answered_15 : decode cX0_answered 15 = .ok (.iload_n 1, 1) := by decide +kernel
theorem dX0_answered_16 : decode cX0_answered 16 = .ok (.isub, 1) := by decide +kernel
theorem dX0_answered_17 : decode cX0_answered 17 = .ok (.ireturn, 1) := by decide +kernel
theorem dX0_settled_0 : decode cX0_settled 0 = .ok (.iload_n 1, 1) := by decide +kernel
theorem dX0_settled_1 : decode cX0_settled 1 = .ok (.ifCond .le 27, 3) := by decide +kernel
theorem dX0_settled_4 : decode cX0_settled 4 = .ok (.iload_n 1, 1) := by decide +kernel
theorem dX0_settled_5 : decode cX0_settled 5 = .ok (.aload_n 0, 1) := by decide +kernel
theorem dX0_settled_6 : decode cX0_settled 6 = .ok (.getfield 45, 3) := by decide +kernel
theorem dX0_settled_9 : decode cX0_settled 9 = .ok (.if_icmp .gt 19, 3) := by decide +kernel
theorem dX0_settled_12 : decode cX0_settled 12 = .ok (.iload_n 2, 1) := by decide +kernel
theorem dX0_settled_13 : decode cX0_settled 13 = .ok (.ifCond .le 15, 3) := by decide +kernel
theorem dX0_settled_16 : decode cX0_settled 16 = .ok (.iload_n 2, 1) := by decide +kernel
theorem dX0_settled_17 : decode cX0_settled 17 = .ok (.aload_n 0, 1) := by decide +kernel
theorem dX0_settled_18 : decode cX0_settled 18 = .ok (.getfield 48, 3) := by decide +kernel
theorem dX0_settled_21 : decode cX0_settled 21 = .ok (.if_icmp .gt 7, 3) := by decide +kernel
theorem dX0_settled_24 : decode cX0_settled 24 = .ok (.iconst 1, 1) := by decide +kernel
theorem dX0_settled_25 : decode cX0_settled 25 = .ok (.goto 4, 3) := by decide +kernel
theorem dX0_settled_28 : decode cX0_settled 28 = .ok (.iconst 0, 1) := by decide +kernel
theorem dX0_settled_29 : decode cX0_settled 29 = .ok (.istore_n 3, 1) := by decide +kernel
theorem dX0_settled_30 : decode cX0_settled 30 = .ok (.aload_n 0, 1) := by decide +kernel
theorem dX0_settled_31 : decode cX0_settled 31 = .ok (.getfield 32, 3) := by decide +kernel
theorem dX0_settled_34 : decode cX0_settled 34 = .ok (.ifnull 21, 3) := by decide +kernel
theorem dX0_settled_37 : decode cX0_settled 37 = .ok (.iload_n 3, 1) := by decide +kernel
theorem dX0_settled_38 : decode cX0_settled 38 = .ok (.ifCond .eq 17, 3) := by decide +kernel
theorem dX0_settled_41 : decode cX0_settled 41 = .ok (.aload_n 0, 1) := by decide +kernel
theorem dX0_settled_42 : decode cX0_settled 42 = .ok (.getfield 32, 3) := by decide +kernel
theorem dX0_settled_45 : decode cX0_settled 45 = .ok (.iload_n 1, 1) := by decide +kernel
theorem dX0_settled_46 : decode cX0_settled 46 = .ok (.bipush 75, 2) := by decide +kernel
theorem dX0_settled_48 : decode cX0_settled 48 = .ok (.imul, 1) := by decide +kernel
theorem dX0_settled_49 : decode cX0_settled 49 = .ok (.iload_n 2, 1) := by decide +kernel
theorem dX0_settled_50 : decode cX0_settled 50 = .ok (.iadd, 1) := by decide +kernel
theorem dX0_settled_51 : decode cX0_settled 51 = .ok (.iaload, 1) := by decide +kernel
theorem dX0_settled_52 : decode cX0_settled 52 = .ok (.goto 4, 3) := by decide +kernel
theorem dX0_settled_55 : decode cX0_settled 55 = .ok (.iconst 0, 1) := by decide +kernel
theorem dX0_settled_56 : decode cX0_settled 56 = .ok (.ireturn, 1) := by decide +kernel
theorem dX0_isWon_0 : decode cX0_isWon 0 = .ok (.aload_n 0, 1) := by decide +kernel
theorem dX0_isWon_1 : decode cX0_isWon 1 = .ok (.iload_n 1, 1) := by decide +kernel
theorem dX0_isWon_2 : decode cX0_isWon 2 = .ok (.iload_n 2, 1) := by decide +kernel
theorem dX0_isWon_3 : decode cX0_isWon 3 = .ok (.invokevirtual 78, 3) := by decide +kernel
theorem dX0_isWon_6 : decode cX0_isWon 6 = .ok (.ifCond .le 7, 3) := by decide +kernel
theorem dX0_isWon_9 : decode cX0_isWon 9 = .ok (.iconst 1, 1) := by decide +kernel
theorem dX0_isWon_10 : decode cX0_isWon 10 = .ok (.goto 4, 3) := by decide +kernel
theorem dX0_isWon_13 : decode cX0_isWon 13 = .ok (.iconst 0, 1) := by decide +kernel
theorem dX0_isWon_14 : decode cX0_isWon 14 = .ok (.ireturn, 1) := by decide +kernel
theorem dX0_turns_0 : decode cX0_turns 0 = .ok (.sipush 1000, 3) := by decide +kernel
theorem dX0_turns_3 : decode cX0_turns 3 = .ok (.aload_n 0, 1) := by decide +kernel
theorem dX0_turns_4 : decode cX0_turns 4 = .ok (.iload_n 1, 1) := by decide +kernel
theorem dX0_turns_5 : decode cX0_turns 5 = .ok (.iload_n 2, 1) := by decide +kernel
theorem dX0_turns_6 : decode cX0_turns 6 = .ok (.invokevirtual 78, 3) := by decide +kernel
theorem dX0_turns_9 : decode cX0_turns 9 = .ok (.iconst 2, 1) := by decide +kernel
theorem dX0_turns_10 : decode cX0_turns 10 = .ok (.ishr, 1) := by decide +kernel
theorem dX0_turns_11 : decode cX0_turns 11 = .ok (.invokestatic 81, 3) := by decide +kernel
theorem dX0_turns_14 : decode cX0_turns 14 = .ok (.isub, 1) := by decide +kernel
theorem dX0_turns_15 : decode cX0_turns 15 = .ok (.ireturn, 1) := by decide +kernel
theorem dX0_deed_0 : decode cX0_deed 0 = .ok (.iconst 2, 1) := by decide +kernel
theorem dX0_deed_1 : decode cX0_deed 1 = .ok (.aload_n 0, 1) := by decide +kernel
theorem dX0_deed_2 : decode cX0_deed 2 = .ok (.iload_n 1, 1) := by decide +kernel
theorem dX0_deed_3 : decode cX0_deed 3 = .ok (.iload_n 2, 1) := by decide +kernel
theorem dX0_deed_4 : decode cX0_deed 4 = .ok (.invokevirtual 78, 3) := by decide +kernel
theorem dX0_deed_7 : decode cX0_deed 7 = .ok (.iconst 3, 1) := by decide +kernel
theorem dX0_deed_8 : decode cX0_deed 8 = .ok (.iand, 1) := by decide +kernel
theorem dX0_deed_9 : decode cX0_deed 9 = .ok (.isub, 1) := by decide +kernel
theorem dX0_deed_10 : decode cX0_deed 10 = .ok (.ireturn, 1) := by decide +kernel
theorem dX1_init_0 : decode cX1_init 0 = .ok (.aload_n 0, 1) := by decide +kernel
theorem dX1_init_1 : decode cX1_init 1 = .ok (.invokespecial 1, 3) := by decide +kernel
theorem dX1_init_4 : decode cX1_init 4 = .ok (.aload_n 0, 1) := by decide +kernel
theorem dX1_init_5 : decode cX1_init 5 = .ok (.bipush 8, 2) := by decide +kernel
theorem dX1_init_7 : decode cX1_init 7 = .ok (.newarray .int, 2) := by decide +kernel
theorem dX1_init_9 : decode cX1_init 9 = .ok (.putfield 9, 3) := by decide +kernel
theorem dX1_init_12 : decode cX1_init 12 = .ok (.aload_n 0, 1) := by decide +kernel
theorem dX1_init_13 : decode cX1_init 13 = .ok (.iconst 0, 1) := by decide +kernel
theorem dX1_init_14 : decode cX1_init 14 = .ok (.putfield 15, 3) := by decide +kernel
theorem dX1_init_17 : decode cX1_init 17 = .ok (.aload_n 0, 1) := by decide +kernel
theorem dX1_init_18 : decode cX1_init 18 = .ok (.aload_n 1, 1) := by decide +kernel
theorem dX1_init_19 : decode cX1_init 19 = .ok (.putfield 19, 3) := by decide +kernel
theorem dX1_init_22 : decode cX1_init 22 = .ok (.aload_n 0, 1) := by decide +kernel
theorem dX1_init_23 : decode cX1_init 23 = .ok (.aload_n 2, 1) := by decide +kernel
theorem dX1_init_24 : decode cX1_init 24 = .ok (.putfield 23, 3) := by decide +kernel
theorem dX1_init_27 : decode cX1_init 27 = .ok (.return_, 1) := by decide +kernel
theorem dX1_gather_0 : decode cX1_gather 0 = .ok (.aload_n 0, 1) := by decide +kernel
theorem dX1_gather_1 : decode cX1_gather 1 = .ok (.iconst 0, 1) := by decide +kernel
theorem dX1_gather_2 : decode cX1_gather 2 = .ok (.putfield 15, 3) := by decide +kernel
theorem dX1_gather_5 : decode cX1_gather 5 = .ok (.iconst 0, 1) := by decide +kernel
theorem dX1_gather_6 : decode cX1_gather 6 = .ok (.istore_n 2, 1) := by decide +kernel
theorem dX1_gather_7 : decode cX1_gather 7 = .ok (.iload_n 2, 1) := by decide +kernel
theorem dX1_gather_8 : decode cX1_gather 8 = .ok (.aload_n 0, 1) := by decide +kernel
theorem dX1_gather_9 : decode cX1_gather 9 = .ok (.getfield 19, 3) := by decide +kernel
theorem dX1_gather_12 : decode cX1_gather 12 = .ok (.getfield 27, 3) := by decide +kernel
theorem dX1_gather_15 : decode cX1_gather 15 = .ok (.if_icmp .ge 68, 3) := by decide +kernel
theorem dX1_gather_18 : decode cX1_gather 18 = .ok (.aload_n 0, 1) := by decide +kernel
theorem dX1_gather_19 : decode cX1_gather 19 = .ok (.getfield 19, 3) := by decide +kernel
theorem dX1_gather_22 : decode cX1_gather 22 = .ok (.getfield 30, 3) := by decide +kernel
theorem dX1_gather_25 : decode cX1_gather 25 = .ok (.iload_n 2, 1) := by decide +kernel
theorem dX1_gather_26 : decode cX1_gather 26 = .ok (.iaload, 1) := by decide +kernel
theorem dX1_gather_27 : decode cX1_gather 27 = .ok (.iload_n 1, 1) := by decide +kernel
theorem dX1_gather_28 : decode cX1_gather 28 = .ok (.if_icmp .ne 49, 3) := by decide +kernel
theorem dX1_gather_31 : decode cX1_gather 31 = .ok (.aload_n 0, 1) := by decide +kernel
theorem dX1_gather_32 : decode cX1_gather 32 = .ok (.getfield 23, 3) := by decide +kernel
theorem dX1_gather_35 : decode cX1_gather 35 = .ok (.iload_n 2, 1) := by decide +kernel
theorem dX1_gather_36 : decode cX1_gather 36 = .ok (.invokevirtual 33, 3) := by decide +kernel
theorem dX1_gather_39 : decode cX1_gather 39 = .ok (.ifCond .ne 38, 3) := by decide +kernel
theorem dX1_gather_42 : decode cX1_gather 42 = .ok (.aload_n 0, 1) := by decide +kernel
theorem dX1_gather_43 : decode cX1_gather 43 = .ok (.getfield 23, 3) := by decide +kernel
theorem dX1_gather_46 : decode cX1_gather 46 = .ok (.iload_n 2, 1) := by decide +kernel
theorem dX1_gather_47 : decode cX1_gather 47 = .ok (.invokevirtual 39, 3) := by decide +kernel
theorem dX1_gather_50 : decode cX1_gather 50 = .ok (.ifCond .eq 27, 3) := by decide +kernel
theorem dX1_gather_53 : decode cX1_gather 53 = .ok (.aload_n 0, 1) := by decide +kernel
theorem dX1_gather_54 : decode cX1_gather 54 = .ok (.getfield 9, 3) := by decide +kernel
theorem dX1_gather_57 : decode cX1_gather 57 = .ok (.aload_n 0, 1) := by decide +kernel
theorem dX1_gather_58 : decode cX1_gather 58 = .ok (.getfield 15, 3) := by decide +kernel
theorem dX1_gather_61 : decode cX1_gather 61 = .ok (.aload_n 0, 1) := by decide +kernel
theorem dX1_gather_62 : decode cX1_gather 62 = .ok (.iload_n 2, 1) := by decide +kernel
theorem dX1_gather_63 : decode cX1_gather 63 = .ok (.invokevirtual 42, 3) := by decide +kernel
theorem dX1_gather_66 : decode cX1_gather 66 = .ok (.iastore, 1) := by decide +kernel
theorem dX1_gather_67 : decode cX1_gather 67 = .ok (.aload_n 0, 1) := by decide +kernel
theorem dX1_gather_68 : decode cX1_gather 68 = .ok (.dup, 1) := by decide +kernel
theorem dX1_gather_69 : decode cX1_gather 69 = .ok (.getfield 15, 3) := by decide +kernel
theorem dX1_gather_72 : decode cX1_gather 72 = .ok (.iconst 1, 1) := by decide +kernel
theorem dX1_gather_73 : decode cX1_gather 73 = .ok (.iadd, 1) := by decide +kernel
theorem dX1_gather_74 : decode cX1_gather 74 = .ok (.putfield 15, 3) := by decide +kernel
theorem dX1_gather_77 : decode cX1_gather 77 = .ok (.iinc 2 1, 3) := by decide +kernel
theorem dX1_gather_80 : decode cX1_gather 80 = .ok (.goto (-73), 3) := by decide +kernel
theorem dX1_gather_83 : decode cX1_gather 83 = .ok (.return_, 1) := by decide +kernel
theorem dX1_broughtHomeBy_0 : decode cX1_broughtHomeBy 0 = .ok (.iconst 0, 1) := by decide +kernel
theorem dX1_broughtHomeBy_1 : decode cX1_broughtHomeBy 1 = .ok (.istore_n 2, 1) := by decide +kernel
theorem dX1_broughtHomeBy_2 : decode cX1_broughtHomeBy 2 = .ok (.iconst 0, 1) := by decide +kernel
theorem dX1_broughtHomeBy_3 : decode cX1_broughtHomeBy 3 = .ok (.istore_n 3, 1) := by decide +kernel
theorem dX1_broughtHomeBy_4 : decode cX1_broughtHomeBy 4 = .ok (.iload_n 3, 1) := by decide +kernel
theorem dX1_broughtHomeBy_5 : decode cX1_broughtHomeBy 5 = .ok (.aload_n 0, 1) := by decide +kernel
theorem dX1_broughtHomeBy_6 : decode cX1_broughtHomeBy 6 = .ok (.getfield 19, 3) := by decide +kernel
theorem dX1_broughtHomeBy_9 : decode cX1_broughtHomeBy 9 = .ok (.getfield 27, 3) := by decide +kernel
theorem dX1_broughtHomeBy_12 : decode cX1_broughtHomeBy 12 = .ok (.if_icmp .ge 91, 3) := by decide +kernel
theorem dX1_broughtHomeBy_15 : decode cX1_broughtHomeBy 15 = .ok (.aload_n 0, 1) := by decide +kernel
theorem dX1_broughtHomeBy_16 : decode cX1_broughtHomeBy 16 = .ok (.getfield 19, 3) := by decide +kernel
theorem dX1_broughtHomeBy_19 : decode cX1_broughtHomeBy 19 = .ok (.getfield 30, 3) := by decide +kernel
theorem dX1_broughtHomeBy_22 : decode cX1_broughtHomeBy 22 = .ok (.iload_n 3, 1) := by decide +kernel
theorem dX1_broughtHomeBy_23 : decode cX1_broughtHomeBy 23 = .ok (.iaload, 1) := by decide +kernel
theorem dX1_broughtHomeBy_24 : decode cX1_broughtHomeBy 24 = .ok (.aload_n 0, 1) := by decide +kernel
theorem dX1_broughtHomeBy_25 : decode cX1_broughtHomeBy 25 = .ok (.getfield 19, 3) := by decide +kernel
theorem dX1_broughtHomeBy_28 : decode cX1_broughtHomeBy 28 = .ok (.getfield 30, 3) := by decide +kernel
theorem dX1_broughtHomeBy_31 : decode cX1_broughtHomeBy 31 = .ok (.iload_n 1, 1) := by decide +kernel
theorem dX1_broughtHomeBy_32 : decode cX1_broughtHomeBy 32 = .ok (.iaload, 1) := by decide +kernel
theorem dX1_broughtHomeBy_33 : decode cX1_broughtHomeBy 33 = .ok (.if_icmp .eq 29, 3) := by decide +kernel
theorem dX1_broughtHomeBy_36 : decode cX1_broughtHomeBy 36 = .ok (.aload_n 0, 1) := by decide +kernel
theorem dX1_broughtHomeBy_37 : decode cX1_broughtHomeBy 37 = .ok (.getfield 23, 3) := by decide +kernel
theorem dX1_broughtHomeBy_40 : decode cX1_broughtHomeBy 40 = .ok (.iload_n 3, 1) := by decide +kernel
theorem dX1_broughtHomeBy_41 : decode cX1_broughtHomeBy 41 = .ok (.invokevirtual 33, 3) := by decide +kernel
theorem dX1_broughtHomeBy_44 : decode cX1_broughtHomeBy 44 = .ok (.ifCond .ne 18, 3) := by decide +kernel
theorem dX1_broughtHomeBy_47 : decode cX1_broughtHomeBy 47 = .ok (.aload_n 0, 1) := by decide +kernel
theorem dX1_broughtHomeBy_48 : decode cX1_broughtHomeBy 48 = .ok (.getfield 23, 3) := by decide +kernel
theorem dX1_broughtHomeBy_51 : decode cX1_broughtHomeBy 51 = .ok (.iload_n 3, 1) := by decide +kernel
theorem dX1_broughtHomeBy_52 : decode cX1_broughtHomeBy 52 = .ok (.invokevirtual 46, 3) := by decide +kernel
theorem dX1_broughtHomeBy_55 : decode cX1_broughtHomeBy 55 = .ok (.ifCond .eq 7, 3) := by decide +kernel
theorem dX1_broughtHomeBy_58 : decode cX1_broughtHomeBy 58 = .ok (.iconst 1, 1) := by decide +kernel
theorem dX1_broughtHomeBy_59 : decode cX1_broughtHomeBy 59 = .ok (.goto 4, 3) := by decide +kernel
theorem dX1_broughtHomeBy_62 : decode cX1_broughtHomeBy 62 = .ok (.iconst 0, 1) := by decide +kernel
theorem dX1_broughtHomeBy_63 : decode cX1_broughtHomeBy 63 = .ok (.istore 4, 2) := by decide +kernel
theorem dX1_broughtHomeBy_65 : decode cX1_broughtHomeBy 65 = .ok (.iload 4, 2) := by decide +kernel
theorem dX1_broughtHomeBy_67 : decode cX1_broughtHomeBy 67 = .ok (.ifCond .eq 30, 3) := by decide +kernel
theorem dX1_broughtHomeBy_70 : decode cX1_broughtHomeBy 70 = .ok (.aload_n 0, 1) := by decide +kernel
theorem dX1_broughtHomeBy_71 : decode cX1_broughtHomeBy 71 = .ok (.getfield 23, 3) := by decide +kernel
theorem dX1_broughtHomeBy_74 : decode cX1_broughtHomeBy 74 = .ok (.getfield 49, 3) := by decide +kernel
theorem dX1_broughtHomeBy_77 : decode cX1_broughtHomeBy 77 = .ok (.iload_n 3, 1) := by decide +kernel
theorem dX1_broughtHomeBy_78 : decode cX1_broughtHomeBy 78 = .ok (.iaload, 1) := by decide +kernel
theorem dX1_broughtHomeBy_79 : decode cX1_broughtHomeBy 79 = .ok (.aload_n 0, 1) := by decide +kernel
theorem dX1_broughtHomeBy_80 : decode cX1_broughtHomeBy 80 = .ok (.getfield 19, 3) := by decide +kernel
theorem dX1_broughtHomeBy_83 : decode cX1_broughtHomeBy 83 = .ok (.getfield 52, 3) := by decide +kernel
theorem dX1_broughtHomeBy_86 : decode cX1_broughtHomeBy 86 = .ok (.iload_n 1, 1) := by decide +kernel
theorem dX1_broughtHomeBy_87 : decode cX1_broughtHomeBy 87 = .ok (.iaload, 1) := by decide +kernel
theorem dX1_broughtHomeBy_88 : decode cX1_broughtHomeBy 88 = .ok (.if_icmp .gt 9, 3) := by decide +kernel
theorem dX1_broughtHomeBy_91 : decode cX1_broughtHomeBy 91 = .ok (.iload_n 2, 1) := by decide +kernel
theorem dX1_broughtHomeBy_92 : decode cX1_broughtHomeBy 92 = .ok (.iconst 1, 1) := by decide +kernel
theorem dX1_broughtHomeBy_93 : decode cX1_broughtHomeBy 93 = .ok (.iload_n 3, 1) := by decide +kernel
theorem dX1_broughtHomeBy_94 : decode cX1_broughtHomeBy 94 = .ok (.ishl, 1) := by decide +kernel
theorem dX1_broughtHomeBy_95 : decode cX1_broughtHomeBy 95 = .ok (.ior, 1) := by decide +kernel
theorem dX1_broughtHomeBy_96 : decode cX1_broughtHomeBy 96 = .ok (.istore_n 2, 1) := by decide +kernel
theorem dX1_broughtHomeBy_97 : decode cX1_broughtHomeBy 97 = .ok (.iinc 3 1, 3) := by decide +kernel
theorem dX1_broughtHomeBy_100 : decode cX1_broughtHomeBy 100 = .ok (.goto (-96), 3) := by decide +kernel
theorem dX1_broughtHomeBy_103 : decode cX1_broughtHomeBy 103 = .ok (.iload_n 2, 1) := by decide +kernel
theorem dX1_broughtHomeBy_104 : decode cX1_broughtHomeBy 104 = .ok (.ireturn, 1) := by decide +kernel
theorem dX1_most_0 : decode cX1_most 0 = .ok (.aload_n 0, 1) := by decide +kernel
theorem dX1_most_1 : decode cX1_most 1 = .ok (.iconst 0, 1) := by decide +kernel
theorem dX1_most_2 : decode cX1_most 2 = .ok (.aload_n 0, 1) := by decide +kernel
theorem dX1_most_3 : decode cX1_most 3 = .ok (.getfield 19, 3) := by decide +kernel
theorem dX1_most_6 : decode cX1_most 6 = .ok (.invokevirtual 55, 3) := by decide +kernel
theorem dX1_most_9 : decode cX1_most 9 = .ok (.invokevirtual 59, 3) := by decide +kernel
theorem dX1_most_12 : decode cX1_most 12 = .ok (.ireturn, 1) := by decide +kernel
theorem dX1_mostFrom_0 : decode cX1_mostFrom 0 = .ok (.iload_n 1, 1) := by decide +kernel
theorem dX1_mostFrom_1 : decode cX1_mostFrom 1 = .ok (.aload_n 0, 1) := by decide +kernel
theorem dX1_mostFrom_2 : decode cX1_mostFrom 2 = .ok (.getfield 15, 3) := by decide +kernel
theorem dX1_mostFrom_5 : decode cX1_mostFrom 5 = .ok (.if_icmp .ge 9, 3) := by decide +kernel
theorem dX1_mostFrom_8 : decode cX1_mostFrom 8 = .ok (.iload_n 1, 1) := by decide +kernel
theorem dX1_mostFrom_9 : decode cX1_mostFrom 9 = .ok (.bipush 8, 2) := by decide +kernel
theorem dX1_mostFrom_11 : decode cX1_mostFrom 11 = .ok (.if_icmp .lt 5, 3) := by decide +kernel
theorem dX1_mostFrom_14 : decode cX1_mostFrom 14 = .ok (.iconst 0, 1) := by decide +kernel
theorem dX1_mostFrom_15 : decode cX1_mostFrom 15 = .ok (.ireturn, 1) := by decide +kernel
theorem dX1_mostFrom_16 : decode cX1_mostFrom 16 = .ok (.aload_n 0, 1) := by decide +kernel
theorem dX1_mostFrom_17 : decode cX1_mostFrom 17 = .ok (.iload_n 1, 1) := by decide +kernel
theorem dX1_mostFrom_18 : decode cX1_mostFrom 18 = .ok (.iconst 1, 1) := by decide +kernel
theorem dX1_mostFrom_19 : decode cX1_mostFrom 19 = .ok (.iadd, 1) := by decide +kernel
theorem dX1_mostFrom_20 : decode cX1_mostFrom 20 = .ok (.iload_n 2, 1) := by decide +kernel
theorem dX1_mostFrom_21 : decode cX1_mostFrom 21 = .ok (.invokevirtual 59, 3) := by decide +kernel
theorem dX1_mostFrom_24 : decode cX1_mostFrom 24 = .ok (.istore_n 3, 1) := by decide +kernel
theorem dX1_mostFrom_25 : decode cX1_mostFrom 25 = .ok (.iconst 0, 1) := by decide +kernel
theorem dX1_mostFrom_26 : decode cX1_mostFrom 26 = .ok (.istore 4, 2) := by decide +kernel
theorem dX1_mostFrom_28 : decode cX1_mostFrom 28 = .ok (.iload 4, 2) := by decide +kernel
theorem dX1_mostFrom_30 : decode cX1_mostFrom 30 = .ok (.aload_n 0, 1) := by decide +kernel
theorem dX1_mostFrom_31 : decode cX1_mostFrom 31 = .ok (.getfield 19, 3) := by decide +kernel
theorem dX1_mostFrom_34 : decode cX1_mostFrom 34 = .ok (.getfield 27, 3) := by decide +kernel
theorem dX1_mostFrom_37 : decode cX1_mostFrom 37 = .ok (.if_icmp .ge 47, 3) := by decide +kernel
theorem dX1_mostFrom_40 : decode cX1_mostFrom 40 = .ok (.aload_n 0, 1) := by decide +kernel
theorem dX1_mostFrom_41 : decode cX1_mostFrom 41 = .ok (.getfield 9, 3) := by decide +kernel
theorem dX1_mostFrom_44 : decode cX1_mostFrom 44 = .ok (.iload_n 1, 1) := by decide +kernel
theorem dX1_mostFrom_45 : decode cX1_mostFrom 45 = .ok (.iaload, 1) := by decide +kernel
theorem dX1_mostFrom_46 : decode cX1_mostFrom 46 = .ok (.iload_n 2, 1) := by decide +kernel
theorem dX1_mostFrom_47 : decode cX1_mostFrom 47 = .ok (.iand, 1) := by decide +kernel
theorem dX1_mostFrom_48 : decode cX1_mostFrom 48 = .ok (.iconst 1, 1) := by decide +kernel
theorem dX1_mostFrom_49 : decode cX1_mostFrom 49 = .ok (.iload 4, 2) := by decide +kernel
theorem dX1_mostFrom_51 : decode cX1_mostFrom 51 = .ok (.ishl, 1) := by decide +kernel
theorem dX1_mostFrom_52 : decode cX1_mostFrom 52 = .ok (.iand, 1) := by decide +kernel
theorem dX1_mostFrom_53 : decode cX1_mostFrom 53 = .ok (.ifCond .eq 25, 3) := by decide +kernel
theorem dX1_mostFrom_56 : decode cX1_mostFrom 56 = .ok (.iload_n 3, 1) := by decide +kernel
theorem dX1_mostFrom_57 : decode cX1_mostFrom 57 = .ok (.iconst 1, 1) := by decide +kernel
theorem dX1_mostFrom_58 : decode cX1_mostFrom 58 = .ok (.aload_n 0, 1) := by decide +kernel
theorem dX1_mostFrom_59 : decode cX1_mostFrom 59 = .ok (.iload_n 1, 1) := by decide +kernel
theorem dX1_mostFrom_60 : decode cX1_mostFrom 60 = .ok (.iconst 1, 1) := by decide +kernel
theorem dX1_mostFrom_61 : decode cX1_mostFrom 61 = .ok (.iadd, 1) := by decide +kernel
theorem dX1_mostFrom_62 : decode cX1_mostFrom 62 = .ok (.iload_n 2, 1) := by decide +kernel
theorem dX1_mostFrom_63 : decode cX1_mostFrom 63 = .ok (.iconst 1, 1) := by decide +kernel
theorem dX1_mostFrom_64 : decode cX1_mostFrom 64 = .ok (.iload 4, 2) := by decide +kernel
theorem dX1_mostFrom_66 : decode cX1_mostFrom 66 = .ok (.ishl, 1) := by decide +kernel
theorem dX1_mostFrom_67 : decode cX1_mostFrom 67 = .ok (.iconst (-1), 1) := by decide +kernel
theorem dX1_mostFrom_68 : decode cX1_mostFrom 68 = .ok (.ixor, 1) := by decide +kernel
theorem dX1_mostFrom_69 : decode cX1_mostFrom 69 = .ok (.iand, 1) := by decide +kernel
theorem dX1_mostFrom_70 : decode cX1_mostFrom 70 = .ok (.invokevirtual 59, 3) := by decide +kernel
theorem dX1_mostFrom_73 : decode cX1_mostFrom 73 = .ok (.iadd, 1) := by decide +kernel
theorem dX1_mostFrom_74 : decode cX1_mostFrom 74 = .ok (.invokestatic 63, 3) := by decide +kernel
theorem dX1_mostFrom_77 : decode cX1_mostFrom 77 = .ok (.istore_n 3, 1) := by decide +kernel
theorem dX1_mostFrom_78 : decode cX1_mostFrom 78 = .ok (.iinc 4 1, 3) := by decide +kernel
theorem dX1_mostFrom_81 : decode cX1_mostFrom 81 = .ok (.goto (-53), 3) := by decide +kernel
theorem dX1_mostFrom_84 : decode cX1_mostFrom 84 = .ok (.iload_n 3, 1) := by decide +kernel
theorem dX1_mostFrom_85 : decode cX1_mostFrom 85 = .ok (.ireturn, 1) := by decide +kernel
theorem dX1_leastRow_0 : decode cX1_leastRow 0 = .ok (.iconst 0, 1) := by decide +kernel
theorem dX1_leastRow_1 : decode cX1_leastRow 1 = .ok (.istore_n 1, 1) := by decide +kernel
theorem dX1_leastRow_2 : decode cX1_leastRow 2 = .ok (.aload_n 0, 1) := by decide +kernel
theorem dX1_leastRow_3 : decode cX1_leastRow 3 = .ok (.getfield 19, 3) := by decide +kernel
theorem dX1_leastRow_6 : decode cX1_leastRow 6 = .ok (.invokevirtual 55, 3) := by decide +kernel
theorem dX1_leastRow_9 : decode cX1_leastRow 9 = .ok (.istore_n 2, 1) := by decide +kernel
theorem dX1_leastRow_10 : decode cX1_leastRow 10 = .ok (.aload_n 0, 1) := by decide +kernel
theorem dX1_leastRow_11 : decode cX1_leastRow 11 = .ok (.invokevirtual 68, 3) := by decide +kernel
theorem dX1_leastRow_14 : decode cX1_leastRow 14 = .ok (.istore_n 3, 1) := by decide +kernel
theorem dX1_leastRow_15 : decode cX1_leastRow 15 = .ok (.iconst 0, 1) := by decide +kernel
theorem dX1_leastRow_16 : decode cX1_leastRow 16 = .ok (.istore 4, 2) := by decide +kernel
theorem dX1_leastRow_18 : decode cX1_leastRow 18 = .ok (.iload 4, 2) := by decide +kernel
theorem dX1_leastRow_20 : decode cX1_leastRow 20 = .ok (.aload_n 0, 1) := by decide +kernel
theorem dX1_leastRow_21 : decode cX1_leastRow 21 = .ok (.getfield 15, 3) := by decide +kernel
theorem dX1_leastRow_24 : decode cX1_leastRow 24 = .ok (.if_icmp .ge 46, 3) := by decide +kernel
theorem dX1_leastRow_27 : decode cX1_leastRow 27 = .ok (.aload_n 0, 1) := by decide +kernel
theorem dX1_leastRow_28 : decode cX1_leastRow 28 = .ok (.iload 4, 2) := by decide +kernel
theorem dX1_leastRow_30 : decode cX1_leastRow 30 = .ok (.iload_n 2, 1) := by decide +kernel
theorem dX1_leastRow_31 : decode cX1_leastRow 31 = .ok (.iload_n 3, 1) := by decide +kernel
theorem dX1_leastRow_32 : decode cX1_leastRow 32 = .ok (.invokevirtual 71, 3) := by decide +kernel
theorem dX1_leastRow_35 : decode cX1_leastRow 35 = .ok (.istore 5, 2) := by decide +kernel
theorem dX1_leastRow_37 : decode cX1_leastRow 37 = .ok (.iload_n 1, 1) := by decide +kernel
theorem dX1_leastRow_38 : decode cX1_leastRow 38 = .ok (.bipush 10, 2) := by decide +kernel
theorem dX1_leastRow_40 : decode cX1_leastRow 40 = .ok (.imul, 1) := by decide +kernel
theorem dX1_leastRow_41 : decode cX1_leastRow 41 = .ok (.iload 5, 2) := by decide +kernel
theorem dX1_leastRow_43 : decode cX1_leastRow 43 = .ok (.iadd, 1) := by decide +kernel
theorem dX1_leastRow_44 : decode cX1_leastRow 44 = .ok (.istore_n 1, 1) := by decide +kernel
theorem dX1_leastRow_45 : decode cX1_leastRow 45 = .ok (.iload 5, 2) := by decide +kernel
theorem dX1_leastRow_47 : decode cX1_leastRow 47 = .ok (.bipush 9, 2) := by decide +kernel
theorem dX1_leastRow_49 : decode cX1_leastRow 49 = .ok (.if_icmp .eq 15, 3) := by decide +kernel
theorem dX1_leastRow_52 : decode cX1_leastRow 52 = .ok (.iload_n 2, 1) := by decide +kernel
theorem dX1_leastRow_53 : decode cX1_leastRow 53 = .ok (.iconst 1, 1) := by decide +kernel
theorem dX1_leastRow_54 : decode cX1_leastRow 54 = .ok (.iload 5, 2) := by decide +kernel
theorem dX1_leastRow_56 : decode cX1_leastRow 56 = .ok (.ishl, 1) := by decide +kernel
theorem dX1_leastRow_57 : decode cX1_leastRow 57 = .ok (.iconst (-1), 1) := by decide +kernel
theorem dX1_leastRow_58 : decode cX1_leastRow 58 = .ok (.ixor, 1) := by decide +kernel
theorem dX1_leastRow_59 : decode cX1_leastRow 59 = .ok (.iand, 1) := by decide +kernel
theorem dX1_leastRow_60 : decode cX1_leastRow 60 = .ok (.istore_n 2, 1) := by decide +kernel
theorem dX1_leastRow_61 : decode cX1_leastRow 61 = .ok (.iinc 3 (-1), 3) := by decide +kernel
theorem dX1_leastRow_64 : decode cX1_leastRow 64 = .ok (.iinc 4 1, 3) := by decide +kernel
theorem dX1_leastRow_67 : decode cX1_leastRow 67 = .ok (.goto (-49), 3) := by decide +kernel
theorem dX1_leastRow_70 : decode cX1_leastRow 70 = .ok (.iload_n 1, 1) := by decide +kernel
theorem dX1_leastRow_71 : decode cX1_leastRow 71 = .ok (.ireturn, 1) := by decide +kernel
theorem dX1_lowestThatLeaves_0 : decode cX1_lowestThatLeaves 0 = .ok (.iconst 0, 1) := by decide +kernel
theorem dX1_lowestThatLeaves_1 : decode cX1_lowestThatLeaves 1 = .ok (.istore 4, 2) := by decide +kernel
theorem dX1_lowestThatLeaves_3 : decode cX1_lowestThatLeaves 3 = .ok (.iload 4, 2) := by decide +kernel
theorem dX1_lowestThatLeaves_5 : decode cX1_lowestThatLeaves 5 = .ok (.aload_n 0, 1) := by decide +kernel
theorem dX1_lowestThatLeaves_6 : decode cX1_lowestThatLeaves 6 = .ok (.getfield 19, 3) := by decide +kernel
theorem dX1_lowestThatLeaves_9 : decode cX1_lowestThatLeaves 9 = .ok (.getfield 27, 3) := by decide +kernel
theorem dX1_lowestThatLeaves_12 : decode cX1_lowestThatLeaves 12 = .ok (.if_icmp .ge 67, 3) := by decide +kernel
theorem dX1_lowestThatLeaves_15 : decode cX1_lowestThatLeaves 15 = .ok (.iload_n 1, 1) := by decide +kernel
theorem dX1_lowestThatLeaves_16 : decode cX1_lowestThatLeaves 16 = .ok (.bipush 8, 2) := by decide +kernel
theorem dX1_lowestThatLeaves_18 : decode cX1_lowestThatLeaves 18 = .ok (.if_icmp .ge 61, 3) := by decide +kernel
theorem dX1_lowestThatLeaves_21 : decode cX1_lowestThatLeaves 21 = .ok (.aload_n 0, 1) := by decide +kernel
theorem dX1_lowestThatLeaves_22 : decode cX1_lowestThatLeaves 22 = .ok (.getfield 9, 3) := by decide +kernel
theorem dX1_lowestThatLeaves_25 : decode cX1_lowestThatLeaves 25 = .ok (.iload_n 1, 1) := by decide +kernel
theorem dX1_lowestThatLeaves_26 : decode cX1_lowestThatLeaves 26 = .ok (.iaload, 1) := by decide +kernel
theorem dX1_lowestThatLeaves_27 : decode cX1_lowestThatLeaves 27 = .ok (.iload_n 2, 1) := by decide +kernel
theorem dX1_lowestThatLeaves_28 : decode cX1_lowestThatLeaves 28 = .ok (.iand, 1) := by decide +kernel
theorem dX1_lowestThatLeaves_29 : decode cX1_lowestThatLeaves 29 = .ok (.iconst 1, 1) := by decide +kernel
theorem dX1_lowestThatLeaves_30 : decode cX1_lowestThatLeaves 30 = .ok (.iload 4, 2) := by decide +kernel
theorem dX1_lowestThatLeaves_32 : decode cX1_lowestThatLeaves 32 = .ok (.ishl, 1) := by decide +kernel
theorem dX1_lowestThatLeaves_33 : decode cX1_lowestThatLeaves 33 = .ok (.iand, 1) := by decide +kernel
theorem dX1_lowestThatLeaves_34 : decode cX1_lowestThatLeaves 34 = .ok (.ifCond .eq 7, 3) := by decide +kernel
theorem dX1_lowestThatLeaves_37 : decode cX1_lowestThatLeaves 37 = .ok (.iconst 1, 1) := by decide +kernel
theorem dX1_lowestThatLeaves_38 : decode cX1_lowestThatLeaves 38 = .ok (.goto 4, 3) := by decide +kernel
theorem dX1_lowestThatLeaves_41 : decode cX1_lowestThatLeaves 41 = .ok (.iconst 0, 1) := by decide +kernel
theorem dX1_lowestThatLeaves_42 : decode cX1_lowestThatLeaves 42 = .ok (.istore 5, 2) := by decide +kernel
theorem dX1_lowestThatLeaves_44 : decode cX1_lowestThatLeaves 44 = .ok (.iload 5, 2) := by decide +kernel
theorem dX1_lowestThatLeaves_46 : decode cX1_lowestThatLeaves 46 = .ok (.ifCond .eq 27, 3) := by decide +kernel
theorem dX1_lowestThatLeaves_49 : decode cX1_lowestThatLeaves 49 = .ok (.iconst 1, 1) := by decide +kernel
theorem dX1_lowestThatLeaves_50 : decode cX1_lowestThatLeaves 50 = .ok (.aload_n 0, 1) := by decide +kernel
theorem dX1_lowestThatLeaves_51 : decode cX1_lowestThatLeaves 51 = .ok (.iload_n 1, 1) := by decide +kernel
theorem dX1_lowestThatLeaves_52 : decode cX1_lowestThatLeaves 52 = .ok (.iconst 1, 1) := by decide +kernel
theorem dX1_lowestThatLeaves_53 : decode cX1_lowestThatLeaves 53 = .ok (.iadd, 1) := by decide +kernel
theorem dX1_lowestThatLeaves_54 : decode cX1_lowestThatLeaves 54 = .ok (.iload_n 2, 1) := by decide +kernel
theorem dX1_lowestThatLeaves_55 : decode cX1_lowestThatLeaves 55 = .ok (.iconst 1, 1) := by decide +kernel
theorem dX1_lowestThatLeaves_56 : decode cX1_lowestThatLeaves 56 = .ok (.iload 4, 2) := by decide +kernel
theorem dX1_lowestThatLeaves_58 : decode cX1_lowestThatLeaves 58 = .ok (.ishl, 1) := by decide +kernel
theorem dX1_lowestThatLeaves_59 : decode cX1_lowestThatLeaves 59 = .ok (.iconst (-1), 1) := by decide +kernel
theorem dX1_lowestThatLeaves_60 : decode cX1_lowestThatLeaves 60 = .ok (.ixor, 1) := by decide +kernel
theorem dX1_lowestThatLeaves_61 : decode cX1_lowestThatLeaves 61 = .ok (.iand, 1) := by decide +kernel
theorem dX1_lowestThatLeaves_62 : decode cX1_lowestThatLeaves 62 = .ok (.invokevirtual 59, 3) := by decide +kernel
theorem dX1_lowestThatLeaves_65 : decode cX1_lowestThatLeaves 65 = .ok (.iadd, 1) := by decide +kernel
theorem dX1_lowestThatLeaves_66 : decode cX1_lowestThatLeaves 66 = .ok (.iload_n 3, 1) := by decide +kernel
theorem dX1_lowestThatLeaves_67 : decode cX1_lowestThatLeaves 67 = .ok (.if_icmp .ne 6, 3) := by decide +kernel
theorem dX1_lowestThatLeaves_70 : decode cX1_lowestThatLeaves 70 = .ok (.iload 4, 2) := by decide +kernel
theorem dX1_lowestThatLeaves_72 : decode cX1_lowestThatLeaves 72 = .ok (.ireturn, 1) := by decide +kernel
theorem dX1_lowestThatLeaves_73 : decode cX1_lowestThatLeaves 73 = .ok (.iinc 4 1, 3) := by decide +kernel
theorem dX1_lowestThatLeaves_76 : decode cX1_lowestThatLeaves 76 = .ok (.goto (-73), 3) := by decide +kernel
theorem dX1_lowestThatLeaves_79 : decode cX1_lowestThatLeaves 79 = .ok (.bipush 9, 2) := by decide +kernel
theorem dX1_lowestThatLeaves_81 : decode cX1_lowestThatLeaves 81 = .ok (.ireturn, 1) := by decide +kernel
theorem dX2_init_0 : decode cX2_init 0 = .ok (.aload_n 0, 1) := by decide +kernel
theorem dX2_init_1 : decode cX2_init 1 = .ok (.invokespecial 3, 3) := by decide +kernel
theorem dX2_init_4 : decode cX2_init 4 = .ok (.aload_n 0, 1) := by decide +kernel
theorem dX2_init_5 : decode cX2_init 5 = .ok (.sipush 240, 3) := by decide +kernel
theorem dX2_init_8 : decode cX2_init 8 = .ok (.newarray .int, 2) := by decide +kernel
theorem dX2_init_10 : decode cX2_init 10 = .ok (.putfield 11, 3) := by decide +kernel
theorem dX2_init_13 : decode cX2_init 13 = .ok (.aload_n 0, 1) := by decide +kernel
theorem dX2_init_14 : decode cX2_init 14 = .ok (.iconst 0, 1) := by decide +kernel
theorem dX2_init_15 : decode cX2_init 15 = .ok (.putfield 17, 3) := by decide +kernel
theorem dX2_init_18 : decode cX2_init 18 = .ok (.aload_n 0, 1) := by decide +kernel
theorem dX2_init_19 : decode cX2_init 19 = .ok (.iconst 0, 1) := by decide +kernel
theorem dX2_init_20 : decode cX2_init 20 = .ok (.putfield 21, 3) := by decide +kernel
theorem dX2_init_23 : decode cX2_init 23 = .ok (.aload_n 0, 1) := by decide +kernel
theorem dX2_init_24 : decode cX2_init 24 = .ok (.aload_n 1, 1) := by decide +kernel
theorem dX2_init_25 : decode cX2_init 25 = .ok (.putfield 24, 3) := by decide +kernel
theorem dX2_init_28 : decode cX2_init 28 = .ok (.return_, 1) := by decide +kernel
theorem dX2_read_0 : decode cX2_read 0 = .ok (.aload_n 0, 1) := by decide +kernel
theorem dX2_read_1 : decode cX2_read 1 = .ok (.iconst 0, 1) := by decide +kernel
theorem dX2_read_2 : decode cX2_read 2 = .ok (.putfield 17, 3) := by decide +kernel
theorem dX2_read_5 : decode cX2_read 5 = .ok (.aload_n 0, 1) := by decide +kernel
theorem dX2_read_6 : decode cX2_read 6 = .ok (.aload_n 0, 1) := by decide +kernel
theorem dX2_read_7 : decode cX2_read 7 = .ok (.getfield 24, 3) := by decide +kernel
theorem dX2_read_10 : decode cX2_read 10 = .ok (.iconst 0, 1) := by decide +kernel
theorem dX2_read_11 : decode cX2_read 11 = .ok (.invokevirtual 28, 3) := by decide +kernel
theorem dX2_read_14 : decode cX2_read 14 = .ok (.putfield 21, 3) := by decide +kernel
theorem dX2_read_17 : decode cX2_read 17 = .ok (.iconst 0, 1) := by decide +kernel
theorem dX2_read_18 : decode cX2_read 18 = .ok (.istore_n 1, 1) := by decide +kernel
theorem dX2_read_19 : decode cX2_read 19 = .ok (.iload_n 1, 1) := by decide +kernel
theorem dX2_read_20 : decode cX2_read 20 = .ok (.sipush 240, 3) := by decide +kernel
theorem dX2_read_23 : decode cX2_read 23 = .ok (.if_icmp .gt 51, 3) := by decide +kernel
theorem dX2_read_26 : decode cX2_read 26 = .ok (.aload_n 0, 1) := by decide +kernel
theorem dX2_read_27 : decode cX2_read 27 = .ok (.invokevirtual 34, 3) := by decide +kernel
theorem dX2_read_30 : decode cX2_read 30 = .ok (.ifCond .ne 8, 3) := by decide +kernel
theorem dX2_read_33 : decode cX2_read 33 = .ok (.aload_n 0, 1) := by decide +kernel
theorem dX2_read_34 : decode cX2_read 34 = .ok (.getfield 21, 3) := by decide +kernel
theorem dX2_read_37 : decode cX2_read 37 = .ok (.ireturn, 1) := by decide +kernel
theorem dX2_read_38 : decode cX2_read 38 = .ok (.aload_n 0, 1) := by decide +kernel
theorem dX2_read_39 : decode cX2_read 39 = .ok (.getfield 21, 3) := by decide +kernel
theorem dX2_read_42 : decode cX2_read 42 = .ok (.aload_n 0, 1) := by decide +kernel
theorem dX2_read_43 : decode cX2_read 43 = .ok (.getfield 24, 3) := by decide +kernel
theorem dX2_read_46 : decode cX2_read 46 = .ok (.getfield 38, 3) := by decide +kernel
theorem dX2_read_49 : decode cX2_read 49 = .ok (.if_icmp .lt 5, 3) := by decide +kernel
theorem dX2_read_52 : decode cX2_read 52 = .ok (.iconst (-1), 1) := by decide +kernel
theorem dX2_read_53 : decode cX2_read 53 = .ok (.ireturn, 1) := by decide +kernel
theorem dX2_read_54 : decode cX2_read 54 = .ok (.aload_n 0, 1) := by decide +kernel
theorem dX2_read_55 : decode cX2_read 55 = .ok (.bipush 59, 2) := by decide +kernel
theorem dX2_read_57 : decode cX2_read 57 = .ok (.invokevirtual 39, 3) := by decide +kernel
theorem dX2_read_60 : decode cX2_read 60 = .ok (.ifCond .ne 8, 3) := by decide +kernel
theorem dX2_read_63 : decode cX2_read 63 = .ok (.aload_n 0, 1) := by decide +kernel
theorem dX2_read_64 : decode cX2_read 64 = .ok (.getfield 21, 3) := by decide +kernel
theorem dX2_read_67 : decode cX2_read 67 = .ok (.ireturn, 1) := by decide +kernel
theorem dX2_read_68 : decode cX2_read 68 = .ok (.iinc 1 1, 3) := by decide +kernel
theorem dX2_read_71 : decode cX2_read 71 = .ok (.goto (-52), 3) := by decide +kernel
theorem dX2_read_74 : decode cX2_read 74 = .ok (.aload_n 0, 1) := by decide +kernel
theorem dX2_read_75 : decode cX2_read 75 = .ok (.getfield 21, 3) := by decide +kernel
theorem dX2_read_78 : decode cX2_read 78 = .ok (.ireturn, 1) := by decide +kernel
theorem dX2_readClause_0 : decode cX2_readClause 0 = .ok (.aload_n 0, 1) := by decide +kernel
theorem dX2_readClause_1 : decode cX2_readClause 1 = .ok (.bipush 121, 2) := by decide +kernel
theorem dX2_readClause_3 : decode cX2_readClause 3 = .ok (.invokevirtual 39, 3) := by decide +kernel
theorem dX2_readClause_6 : decode cX2_readClause 6 = .ok (.ifCond .eq 12, 3) := by decide +kernel
theorem dX2_readClause_9 : decode cX2_readClause 9 = .ok (.aload_n 0, 1) := by decide +kernel
theorem dX2_readClause_10 : decode cX2_readClause 10 = .ok (.bipush 58, 2) := by decide +kernel
theorem dX2_readClause_12 : decode cX2_readClause 12 = .ok (.invokevirtual 39, 3) := by decide +kernel
theorem dX2_readClause_15 : decode cX2_readClause 15 = .ok (.ifCond .ne 5, 3) := by decide +kernel
theorem dX2_readClause_18 : decode cX2_readClause 18 = .ok (.iconst 0, 1) := by decide +kernel
theorem dX2_readClause_19 : decode cX2_readClause 19 = .ok (.ireturn, 1) := by decide +kernel
theorem dX2_readClause_20 : decode cX2_readClause 20 = .ok (.aload_n 0, 1) := by decide +kernel
theorem dX2_readClause_21 : decode cX2_readClause 21 = .ok (.getfield 24, 3) := by decide +kernel
theorem dX2_readClause_24 : decode cX2_readClause 24 = .ok (.aload_n 0, 1) := by decide +kernel
theorem dX2_readClause_25 : decode cX2_readClause 25 = .ok (.getfield 21, 3) := by decide +kernel
theorem dX2_readClause_28 : decode cX2_readClause 28 = .ok (.invokevirtual 43, 3) := by decide +kernel
theorem dX2_readClause_31 : decode cX2_readClause 31 = .ok (.istore_n 1, 1) := by decide +kernel
theorem dX2_readClause_32 : decode cX2_readClause 32 = .ok (.iload_n 1, 1) := by decide +kernel
theorem dX2_readClause_33 : decode cX2_readClause 33 = .ok (.bipush 33, 2) := by decide +kernel
theorem dX2_readClause_35 : decode cX2_readClause 35 = .ok (.if_icmp .eq 9, 3) := by decide +kernel
theorem dX2_readClause_38 : decode cX2_readClause 38 = .ok (.iload_n 1, 1) := by decide +kernel
theorem dX2_readClause_39 : decode cX2_readClause 39 = .ok (.bipush 40, 2) := by decide +kernel
theorem dX2_readClause_41 : decode cX2_readClause 41 = .ok (.if_icmp .ne 7, 3) := by decide +kernel
theorem dX2_readClause_44 : decode cX2_readClause 44 = .ok (.iconst 1, 1) := by decide +kernel
theorem dX2_readClause_45 : decode cX2_readClause 45 = .ok (.goto 4, 3) := by decide +kernel
theorem dX2_readClause_48 : decode cX2_readClause 48 = .ok (.iconst 0, 1) := by decide +kernel
theorem dX2_readClause_49 : decode cX2_readClause 49 = .ok (.istore_n 2, 1) := by decide +kernel
theorem dX2_readClause_50 : decode cX2_readClause 50 = .ok (.iload_n 2, 1) := by decide +kernel
theorem dX2_readClause_51 : decode cX2_readClause 51 = .ok (.ifCond .eq 11, 3) := by decide +kernel
theorem dX2_readClause_54 : decode cX2_readClause 54 = .ok (.aload_n 0, 1) := by decide +kernel
theorem dX2_readClause_55 : decode cX2_readClause 55 = .ok (.iconst 0, 1) := by decide +kernel
theorem dX2_readClause_56 : decode cX2_readClause 56 = .ok (.invokevirtual 45, 3) := by decide +kernel
theorem dX2_readClause_59 : decode cX2_readClause 59 = .ok (.goto 8, 3) := by decide +kernel
theorem dX2_readClause_62 : decode cX2_readClause 62 = .ok (.aload_n 0, 1) := by decide +kernel
theorem dX2_readClause_63 : decode cX2_readClause 63 = .ok (.iconst 0, 1) := by decide +kernel
theorem dX2_readClause_64 : decode cX2_readClause 64 = .ok (.invokevirtual 48, 3) := by decide +kernel
theorem dX2_readClause_67 : decode cX2_readClause 67 = .ok (.istore_n 3, 1) := by decide +kernel
theorem dX2_readClause_68 : decode cX2_readClause 68 = .ok (.iload_n 3, 1) := by decide +kernel
theorem dX2_readClause_69 : decode cX2_readClause 69 = .ok (.ifCond .eq 56, 3) := by decide +kernel
theorem dX2_readClause_72 : decode cX2_readClause 72 = .ok (.iload_n 2, 1) := by decide +kernel
theorem dX2_readClause_73 : decode cX2_readClause 73 = .ok (.ifCond .ne 52, 3) := by decide +kernel
theorem dX2_readClause_76 : decode cX2_readClause 76 = .ok (.aload_n 0, 1) := by decide +kernel
theorem dX2_readClause_77 : decode cX2_readClause 77 = .ok (.getfield 24, 3) := by decide +kernel
theorem dX2_readClause_80 : decode cX2_readClause 80 = .ok (.aload_n 0, 1) := by decide +kernel
theorem dX2_readClause_81 : decode cX2_readClause 81 = .ok (.getfield 21, 3) := by decide +kernel
theorem dX2_readClause_84 : decode cX2_readClause 84 = .ok (.invokevirtual 43, 3) := by decide +kernel
theorem dX2_readClause_87 : decode cX2_readClause 87 = .ok (.invokestatic 51, 3) := by decide +kernel
theorem dX2_readClause_90 : decode cX2_readClause 90 = .ok (.ifCond .eq 35, 3) := by decide +kernel
theorem dX2_readClause_93 : decode cX2_readClause 93 = .ok (.iconst 1, 1) := by decide +kernel
theorem dX2_readClause_94 : decode cX2_readClause 94 = .ok (.istore_n 2, 1) := by decide +kernel
theorem dX2_readClause_95 : decode cX2_readClause 95 = .ok (.aload_n 0, 1) := by decide +kernel
theorem dX2_readClause_96 : decode cX2_readClause 96 = .ok (.iconst 0, 1) := by decide +kernel
theorem dX2_readClause_97 : decode cX2_readClause 97 = .ok (.invokevirtual 54, 3) := by decide +kernel
theorem dX2_readClause_100 : decode cX2_readClause 100 = .ok (.ifCond .eq 23, 3) := by decide +kernel
theorem dX2_readClause_103 : decode cX2_readClause 103 = .ok (.aload_n 0, 1) := by decide +kernel
theorem dX2_readClause_104 : decode cX2_readClause 104 = .ok (.iconst 0, 1) := by decide +kernel
theorem dX2_readClause_105 : decode cX2_readClause 105 = .ok (.invokevirtual 57, 3) := by decide +kernel
theorem dX2_readClause_108 : decode cX2_readClause 108 = .ok (.ifCond .eq 15, 3) := by decide +kernel
theorem dX2_readClause_111 : decode cX2_readClause 111 = .ok (.aload_n 0, 1) := by decide +kernel
theorem dX2_readClause_112 : decode cX2_readClause 112 = .ok (.iconst 0, 1) := by decide +kernel
theorem dX2_readClause_113 : decode cX2_readClause 113 = .ok (.invokevirtual 60, 3) := by decide +kernel
theorem dX2_readClause_116 : decode cX2_readClause 116 = .ok (.ifCond .eq 7, 3) := by decide +kernel
theorem dX2_readClause_119 : decode cX2_readClause 119 = .ok (.iconst 1, 1) := by decide +kernel
theorem dX2_readClause_120 : decode cX2_readClause 120 = .ok (.goto 4, 3) := by decide +kernel
theorem dX2_readClause_123 : decode cX2_readClause 123 = .ok (.iconst 0, 1) := by decide +kernel
theorem dX2_readClause_124 : decode cX2_readClause 124 = .ok (.istore_n 3, 1) := by decide +kernel
theorem dX2_readClause_125 : decode cX2_readClause 125 = .ok (.iload_n 3, 1) := by decide +kernel
theorem dX2_readClause_126 : decode cX2_readClause 126 = .ok (.ifCond .eq 12, 3) := by decide +kernel
theorem dX2_readClause_129 : decode cX2_readClause 129 = .ok (.iload_n 2, 1) := by decide +kernel
theorem dX2_readClause_130 : decode cX2_readClause 130 = .ok (.ifCond .eq 8, 3) := by decide +kernel
theorem dX2_readClause_133 : decode cX2_readClause 133 = .ok (.aload_n 0, 1) := by decide +kernel
theorem dX2_readClause_134 : decode cX2_readClause 134 = .ok (.invokevirtual 63, 3) := by decide +kernel
theorem dX2_readClause_137 : decode cX2_readClause 137 = .ok (.istore_n 3, 1) := by decide +kernel
theorem dX2_readClause_138 : decode cX2_readClause 138 = .ok (.aload_n 0, 1) := by decide +kernel
theorem dX2_readClause_139 : decode cX2_readClause 139 = .ok (.bipush (-22), 2) := by decide +kernel
theorem dX2_readClause_141 : decode cX2_readClause 141 = .ok (.invokevirtual 66, 3) := by decide +kernel
theorem dX2_readClause_144 : decode cX2_readClause 144 = .ok (.iload_n 3, 1) := by decide +kernel
theorem dX2_readClause_145 : decode cX2_readClause 145 = .ok (.ireturn, 1) := by decide +kernel
theorem dX2_readAnswer_0 : decode cX2_readAnswer 0 = .ok (.aload_n 0, 1) := by decide +kernel
theorem dX2_readAnswer_1 : decode cX2_readAnswer 1 = .ok (.bipush 63, 2) := by decide +kernel
theorem dX2_readAnswer_3 : decode cX2_readAnswer 3 = .ok (.invokevirtual 39, 3) := by decide +kernel
theorem dX2_readAnswer_6 : decode cX2_readAnswer 6 = .ok (.ifCond .ne 5, 3) := by decide +kernel
theorem dX2_readAnswer_9 : decode cX2_readAnswer 9 = .ok (.iconst 0, 1) := by decide +kernel
theorem dX2_readAnswer_10 : decode cX2_readAnswer 10 = .ok (.ireturn, 1) := by decide +kernel
theorem dX2_readAnswer_11 : decode cX2_readAnswer 11 = .ok (.aload_n 0, 1) := by decide +kernel
theorem dX2_readAnswer_12 : decode cX2_readAnswer 12 = .ok (.bipush (-21), 2) := by decide +kernel
theorem dX2_readAnswer_14 : decode cX2_readAnswer 14 = .ok (.invokevirtual 66, 3) := by decide +kernel
theorem dX2_readAnswer_17 : decode cX2_readAnswer 17 = .ok (.aload_n 0, 1) := by decide +kernel
theorem dX2_readAnswer_18 : decode cX2_readAnswer 18 = .ok (.iconst 0, 1) := by decide +kernel
theorem dX2_readAnswer_19 : decode cX2_readAnswer 19 = .ok (.invokevirtual 48, 3) := by decide +kernel
theorem dX2_readAnswer_22 : decode cX2_readAnswer 22 = .ok (.ireturn, 1) := by decide +kernel
theorem dX2_readCondition_0 : decode cX2_readCondition 0 = .ok (.aload_n 0, 1) := by decide +kernel
theorem dX2_readCondition_1 : decode cX2_readCondition 1 = .ok (.iload_n 1, 1) := by decide +kernel
theorem dX2_readCondition_2 : decode cX2_readCondition 2 = .ok (.invokevirtual 70, 3) := by decide +kernel
theorem dX2_readCondition_5 : decode cX2_readCondition 5 = .ok (.ifCond .eq 23, 3) := by decide +kernel
theorem dX2_readCondition_8 : decode cX2_readCondition 8 = .ok (.aload_n 0, 1) := by decide +kernel
theorem dX2_readCondition_9 : decode cX2_readCondition 9 = .ok (.iload_n 1, 1) := by decide +kernel
theorem dX2_readCondition_10 : decode cX2_readCondition 10 = .ok (.invokevirtual 57, 3) := by decide +kernel
theorem dX2_readCondition_13 : decode cX2_readCondition 13 = .ok (.ifCond .eq 15, 3) := by decide +kernel
theorem dX2_readCondition_16 : decode cX2_readCondition 16 = .ok (.aload_n 0, 1) := by decide +kernel
theorem dX2_readCondition_17 : decode cX2_readCondition 17 = .ok (.iload_n 1, 1) := by decide +kernel
theorem dX2_readCondition_18 : decode cX2_readCondition 18 = .ok (.invokevirtual 60, 3) := by decide +kernel
theorem dX2_readCondition_21 : decode cX2_readCondition 21 = .ok (.ifCond .eq 7, 3) := by decide +kernel
theorem dX2_readCondition_24 : decode cX2_readCondition 24 = .ok (.iconst 1, 1) := by decide +kernel
theorem dX2_readCondition_25 : decode cX2_readCondition 25 = .ok (.goto 4, 3) := by decide +kernel
theorem dX2_readCondition_28 : decode cX2_readCondition 28 = .ok (.iconst 0, 1) := by decide +kernel
theorem dX2_readCondition_29 : decode cX2_readCondition 29 = .ok (.ireturn, 1) := by decide +kernel
theorem dX2_readMoreTruths_0 : decode cX2_readMoreTruths 0 = .ok (.iconst 0, 1) := by decide +kernel
theorem dX2_readMoreTruths_1 : decode cX2_readMoreTruths 1 = .ok (.istore_n 2, 1) := by decide +kernel
theorem dX2_readMoreTruths_2 : decode cX2_readMoreTruths 2 = .ok (.iload_n 2, 1) := by decide +kernel
theorem dX2_readMoreTruths_3 : decode cX2_readMoreTruths 3 = .ok (.sipush 240, 3) := by decide +kernel
theorem dX2_readMoreTruths_6 : decode cX2_readMoreTruths 6 = .ok (.if_icmp .gt 42, 3) := by decide +kernel
theorem dX2_readMoreTruths_9 : decode cX2_readMoreTruths 9 = .ok (.aload_n 0, 1) := by decide +kernel
theorem dX2_readMoreTruths_10 : decode cX2_readMoreTruths 10 = .ok (.bipush 124, 2) := by decide +kernel
theorem dX2_readMoreTruths_12 : decode cX2_readMoreTruths 12 = .ok (.invokevirtual 39, 3) := by decide +kernel
theorem dX2_readMoreTruths_15 : decode cX2_readMoreTruths 15 = .ok (.ifCond .eq 33, 3) := by decide +kernel
theorem dX2_readMoreTruths_18 : decode cX2_readMoreTruths 18 = .ok (.aload_n 0, 1) := by decide +kernel
theorem dX2_readMoreTruths_19 : decode cX2_readMoreTruths 19 = .ok (.iload_n 1, 1) := by decide +kernel
theorem dX2_readMoreTruths_20 : decode cX2_readMoreTruths 20 = .ok (.invokevirtual 70, 3) := by decide +kernel
theorem dX2_readMoreTruths_23 : decode cX2_readMoreTruths 23 = .ok (.ifCond .eq 11, 3) := by decide +kernel
theorem dX2_readMoreTruths_26 : decode cX2_readMoreTruths 26 = .ok (.aload_n 0, 1) := by decide +kernel
theorem dX2_readMoreTruths_27 : decode cX2_readMoreTruths 27 = .ok (.iload_n 1, 1) := by decide +kernel
theorem dX2_readMoreTruths_28 : decode cX2_readMoreTruths 28 = .ok (.invokevirtual 57, 3) := by decide +kernel
theorem dX2_readMoreTruths_31 : decode cX2_readMoreTruths 31 = .ok (.ifCond .ne 5, 3) := by decide +kernel
theorem dX2_readMoreTruths_34 : decode cX2_readMoreTruths 34 = .ok (.iconst 0, 1) := by decide +kernel
theorem dX2_readMoreTruths_35 : decode cX2_readMoreTruths 35 = .ok (.ireturn, 1) := by decide +kernel
theorem dX2_readMoreTruths_36 : decode cX2_readMoreTruths 36 = .ok (.aload_n 0, 1) := by decide +kernel
theorem dX2_readMoreTruths_37 : decode cX2_readMoreTruths 37 = .ok (.bipush (-19), 2) := by decide +kernel
theorem dX2_readMoreTruths_39 : decode cX2_readMoreTruths 39 = .ok (.invokevirtual 66, 3) := by decide +kernel
theorem dX2_readMoreTruths_42 : decode cX2_readMoreTruths 42 = .ok (.iinc 2 1, 3) := by decide +kernel
theorem dX2_readMoreTruths_45 : decode cX2_readMoreTruths 45 = .ok (.goto (-43), 3) := by decide +kernel
theorem dX2_readMoreTruths_48 : decode cX2_readMoreTruths 48 = .ok (.iconst 1, 1) := by decide +kernel
theorem dX2_readMoreTruths_49 : decode cX2_readMoreTruths 49 = .ok (.ireturn, 1) := by decide +kernel
theorem dX2_readMoreUnits_0 : decode cX2_readMoreUnits 0 = .ok (.iconst 0, 1) := by decide +kernel
theorem dX2_readMoreUnits_1 : decode cX2_readMoreUnits 1 = .ok (.istore_n 2, 1) := by decide +kernel
theorem dX2_readMoreUnits_2 : decode cX2_readMoreUnits 2 = .ok (.iload_n 2, 1) := by decide +kernel
theorem dX2_readMoreUnits_3 : decode cX2_readMoreUnits 3 = .ok (.sipush 240, 3) := by decide +kernel
theorem dX2_readMoreUnits_6 : decode cX2_readMoreUnits 6 = .ok (.if_icmp .gt 34, 3) := by decide +kernel
theorem dX2_readMoreUnits_9 : decode cX2_readMoreUnits 9 = .ok (.aload_n 0, 1) := by decide +kernel
theorem dX2_readMoreUnits_10 : decode cX2_readMoreUnits 10 = .ok (.bipush 38, 2) := by decide +kernel
theorem dX2_readMoreUnits_12 : decode cX2_readMoreUnits 12 = .ok (.invokevirtual 39, 3) := by decide +kernel
theorem dX2_readMoreUnits_15 : decode cX2_readMoreUnits 15 = .ok (.ifCond .eq 25, 3) := by decide +kernel
theorem dX2_readMoreUnits_18 : decode cX2_readMoreUnits 18 = .ok (.aload_n 0, 1) := by decide +kernel
theorem dX2_readMoreUnits_19 : decode cX2_readMoreUnits 19 = .ok (.iload_n 1, 1) := by decide +kernel
theorem dX2_readMoreUnits_20 : decode cX2_readMoreUnits 20 = .ok (.invokevirtual 70, 3) := by decide +kernel
theorem dX2_readMoreUnits_23 : decode cX2_readMoreUnits 23 = .ok (.ifCond .ne 5, 3) := by decide +kernel
theorem dX2_readMoreUnits_26 : decode cX2_readMoreUnits 26 = .ok (.iconst 0, 1) := by decide +kernel
theorem dX2_readMoreUnits_27 : decode cX2_readMoreUnits 27 = .ok (.ireturn, 1) := by decide +kernel
theorem dX2_readMoreUnits_28 : decode cX2_readMoreUnits 28 = .ok (.aload_n 0, 1) := by decide +kernel
theorem dX2_readMoreUnits_29 : decode cX2_readMoreUnits 29 = .ok (.bipush (-18), 2) := by decide +kernel
theorem dX2_readMoreUnits_31 : decode cX2_readMoreUnits 31 = .ok (.invokevirtual 66, 3) := by decide +kernel
theorem dX2_readMoreUnits_34 : decode cX2_readMoreUnits 34 = .ok (.iinc 2 1, 3) := by decide +kernel
theorem dX2_readMoreUnits_37 : decode cX2_readMoreUnits 37 = .ok (.goto (-35), 3) := by decide +kernel
theorem dX2_readMoreUnits_40 : decode cX2_readMoreUnits 40 = .ok (.iconst 1, 1) := by decide +kernel
theorem dX2_readMoreUnits_41 : decode cX2_readMoreUnits 41 = .ok (.ireturn, 1) := by decide +kernel
theorem dX2_readUnit_0 : decode cX2_readUnit 0 = .ok (.aload_n 0, 1) := by decide +kernel
theorem dX2_readUnit_1 : decode cX2_readUnit 1 = .ok (.getfield 24, 3) := by decide +kernel
theorem dX2_readUnit_4 : decode cX2_readUnit 4 = .ok (.aload_n 0, 1) := by decide +kernel
theorem dX2_readUnit_5 : decode cX2_readUnit 5 = .ok (.getfield 21, 3) := by decide +kernel
theorem dX2_readUnit_8 : decode cX2_readUnit 8 = .ok (.invokevirtual 43, 3) := by decide +kernel
theorem dX2_readUnit_11 : decode cX2_readUnit 11 = .ok (.istore_n 2, 1) := by decide +kernel
theorem dX2_readUnit_12 : decode cX2_readUnit 12 = .ok (.iload_n 2, 1) := by decide +kernel
theorem dX2_readUnit_13 : decode cX2_readUnit 13 = .ok (.bipush 33, 2) := by decide +kernel
theorem dX2_readUnit_15 : decode cX2_readUnit 15 = .ok (.if_icmp .eq 31, 3) := by decide +kernel
theorem dX2_readUnit_18 : decode cX2_readUnit 18 = .ok (.iload_n 2, 1) := by decide +kernel
theorem dX2_readUnit_19 : decode cX2_readUnit 19 = .ok (.bipush 40, 2) := by decide +kernel
theorem dX2_readUnit_21 : decode cX2_readUnit 21 = .ok (.if_icmp .eq 25, 3) := by decide +kernel
theorem dX2_readUnit_24 : decode cX2_readUnit 24 = .ok (.aload_n 0, 1) := by decide +kernel
theorem dX2_readUnit_25 : decode cX2_readUnit 25 = .ok (.iload_n 1, 1) := by decide +kernel
theorem dX2_readUnit_26 : decode cX2_readUnit 26 = .ok (.invokevirtual 48, 3) := by decide +kernel
theorem dX2_readUnit_29 : decode cX2_readUnit 29 = .ok (.ifCond .eq 15, 3) := by decide +kernel
theorem dX2_readUnit_32 : decode cX2_readUnit 32 = .ok (.aload_n 0, 1) := by decide +kernel
theorem dX2_readUnit_33 : decode cX2_readUnit 33 = .ok (.iload_n 1, 1) := by decide +kernel
theorem dX2_readUnit_34 : decode cX2_readUnit 34 = .ok (.invokevirtual 54, 3) := by decide +kernel
theorem dX2_readUnit_37 : decode cX2_readUnit 37 = .ok (.ifCond .eq 7, 3) := by decide +kernel
theorem dX2_readUnit_40 : decode cX2_readUnit 40 = .ok (.iconst 1, 1) := by decide +kernel
theorem dX2_readUnit_41 : decode cX2_readUnit 41 = .ok (.goto 4, 3) := by decide +kernel
theorem dX2_readUnit_44 : decode cX2_readUnit 44 = .ok (.iconst 0, 1) := by decide +kernel
theorem dX2_readUnit_45 : decode cX2_readUnit 45 = .ok (.ireturn, 1) := by decide +kernel
theorem dX2_readUnit_46 : decode cX2_readUnit 46 = .ok (.iload_n 1, 1) := by decide +kernel
theorem dX2_readUnit_47 : decode cX2_readUnit 47 = .ok (.bipush 6, 2) := by decide +kernel
theorem dX2_readUnit_49 : decode cX2_readUnit 49 = .ok (.if_icmp .lt 5, 3) := by decide +kernel
theorem dX2_readUnit_52 : decode cX2_readUnit 52 = .ok (.iconst 0, 1) := by decide +kernel
theorem dX2_readUnit_53 : decode cX2_readUnit 53 = .ok (.ireturn, 1) := by decide +kernel
theorem dX2_readUnit_54 : decode cX2_readUnit 54 = .ok (.aload_n 0, 1) := by decide +kernel
theorem dX2_readUnit_55 : decode cX2_readUnit 55 = .ok (.invokevirtual 73, 3) := by decide +kernel
theorem dX2_readUnit_58 : decode cX2_readUnit 58 = .ok (.iload_n 2, 1) := by decide +kernel
theorem dX2_readUnit_59 : decode cX2_readUnit 59 = .ok (.bipush 40, 2) := by decide +kernel
theorem dX2_readUnit_61 : decode cX2_readUnit 61 = .ok (.if_icmp .ne 28, 3) := by decide +kernel
theorem dX2_readUnit_64 : decode cX2_readUnit 64 = .ok (.aload_n 0, 1) := by decide +kernel
theorem dX2_readUnit_65 : decode cX2_readUnit 65 = .ok (.iload_n 1, 1) := by decide +kernel
theorem dX2_readUnit_66 : decode cX2_readUnit 66 = .ok (.iconst 1, 1) := by decide +kernel
theorem dX2_readUnit_67 : decode cX2_readUnit 67 = .ok (.iadd, 1) := by decide +kernel
theorem dX2_readUnit_68 : decode cX2_readUnit 68 = .ok (.invokevirtual 45, 3) := by decide +kernel
theorem dX2_readUnit_71 : decode cX2_readUnit 71 = .ok (.ifCond .eq 16, 3) := by decide +kernel
theorem dX2_readUnit_74 : decode cX2_readUnit 74 = .ok (.aload_n 0, 1) := by decide +kernel
theorem dX2_readUnit_75 : decode cX2_readUnit 75 = .ok (.bipush 41, 2) := by decide +kernel
theorem dX2_readUnit_77 : decode cX2_readUnit 77 = .ok (.invokevirtual 39, 3) := by decide +kernel
theorem dX2_readUnit_80 : decode cX2_readUnit 80 = .ok (.ifCond .eq 7, 3) := by decide +kernel
theorem dX2_readUnit_83 : decode cX2_readUnit 83 = .ok (.iconst 1, 1) := by decide +kernel
theorem dX2_readUnit_84 : decode cX2_readUnit 84 = .ok (.goto 4, 3) := by decide +kernel
theorem dX2_readUnit_87 : decode cX2_readUnit 87 = .ok (.iconst 0, 1) := by decide +kernel
theorem dX2_readUnit_88 : decode cX2_readUnit 88 = .ok (.ireturn, 1) := by decide +kernel
theorem dX2_readUnit_89 : decode cX2_readUnit 89 = .ok (.aload_n 0, 1) := by decide +kernel
theorem dX2_readUnit_90 : decode cX2_readUnit 90 = .ok (.iload_n 1, 1) := by decide +kernel
theorem dX2_readUnit_91 : decode cX2_readUnit 91 = .ok (.iconst 1, 1) := by decide +kernel
theorem dX2_readUnit_92 : decode cX2_readUnit 92 = .ok (.iadd, 1) := by decide +kernel
theorem dX2_readUnit_93 : decode cX2_readUnit 93 = .ok (.invokevirtual 70, 3) := by decide +kernel
theorem dX2_readUnit_96 : decode cX2_readUnit 96 = .ok (.ifCond .ne 5, 3) := by decide +kernel
theorem dX2_readUnit_99 : decode cX2_readUnit 99 = .ok (.iconst 0, 1) := by decide +kernel
theorem dX2_readUnit_100 : decode cX2_readUnit 100 = .ok (.ireturn, 1) := by decide +kernel
theorem dX2_readUnit_101 : decode cX2_readUnit 101 = .ok (.aload_n 0, 1) := by decide +kernel
theorem dX2_readUnit_102 : decode cX2_readUnit 102 = .ok (.bipush (-20), 2) := by decide +kernel
theorem dX2_readUnit_104 : decode cX2_readUnit 104 = .ok (.invokevirtual 66, 3) := by decide +kernel
theorem dX2_readUnit_107 : decode cX2_readUnit 107 = .ok (.iconst 1, 1) := by decide +kernel
theorem dX2_readUnit_108 : decode cX2_readUnit 108 = .ok (.ireturn, 1) := by decide +kernel
theorem dX2_readComparison_0 : decode cX2_readComparison 0 = .ok (.aload_n 0, 1) := by decide +kernel
theorem dX2_readComparison_1 : decode cX2_readComparison 1 = .ok (.getfield 24, 3) := by decide +kernel
theorem dX2_readComparison_4 : decode cX2_readComparison 4 = .ok (.aload_n 0, 1) := by decide +kernel
theorem dX2_readComparison_5 : decode cX2_readComparison 5 = .ok (.getfield 21, 3) := by decide +kernel
theorem dX2_readComparison_8 : decode cX2_readComparison 8 = .ok (.invokevirtual 43, 3) := by decide +kernel
theorem dX2_readComparison_11 : decode cX2_readComparison 11 = .ok (.invokestatic 51, 3) := by decide +kernel
theorem dX2_readComparison_14 : decode cX2_readComparison 14 = .ok (.istore_n 2, 1) := by decide +kernel
theorem dX2_readComparison_15 : decode cX2_readComparison 15 = .ok (.iload_n 2, 1) := by decide +kernel
theorem dX2_readComparison_16 : decode cX2_readComparison 16 = .ok (.ifCond .ne 5, 3) := by decide +kernel
theorem dX2_readComparison_19 : decode cX2_readComparison 19 = .ok (.iconst 0, 1) := by decide +kernel
theorem dX2_readComparison_20 : decode cX2_readComparison 20 = .ok (.ireturn, 1) := by decide +kernel
theorem dX2_readComparison_21 : decode cX2_readComparison 21 = .ok (.aload_n 0, 1) := by decide +kernel
theorem dX2_readComparison_22 : decode cX2_readComparison 22 = .ok (.invokevirtual 73, 3) := by decide +kernel
theorem dX2_readComparison_25 : decode cX2_readComparison 25 = .ok (.aload_n 0, 1) := by decide +kernel
theorem dX2_readComparison_26 : decode cX2_readComparison 26 = .ok (.iload_n 1, 1) := by decide +kernel
theorem dX2_readComparison_27 : decode cX2_readComparison 27 = .ok (.invokevirtual 48, 3) := by decide +kernel
theorem dX2_readComparison_30 : decode cX2_readComparison 30 = .ok (.ifCond .ne 5, 3) := by decide +kernel
theorem dX2_readComparison_33 : decode cX2_readComparison 33 = .ok (.iconst 0, 1) := by decide +kernel
theorem dX2_readComparison_34 : decode cX2_readComparison 34 = .ok (.ireturn, 1) := by decide +kernel
theorem dX2_readComparison_35 : decode cX2_readComparison 35 = .ok (.aload_n 0, 1) := by decide +kernel
theorem dX2_readComparison_36 : decode cX2_readComparison 36 = .ok (.iload_n 2, 1) := by decide +kernel
theorem dX2_readComparison_37 : decode cX2_readComparison 37 = .ok (.invokevirtual 66, 3) := by decide +kernel
theorem dX2_readComparison_40 : decode cX2_readComparison 40 = .ok (.iconst 1, 1) := by decide +kernel
theorem dX2_readComparison_41 : decode cX2_readComparison 41 = .ok (.ireturn, 1) := by decide +kernel
theorem dX2_comparisonOf_0 : decode cX2_comparisonOf 0 = .ok (.iload_n 0, 1) := by decide +kernel
theorem dX2_comparisonOf_1 : decode cX2_comparisonOf 1 = .ok (.bipush 61, 2) := by decide +kernel
theorem dX2_comparisonOf_3 : decode cX2_comparisonOf 3 = .ok (.if_icmp .ne 6, 3) := by decide +kernel
theorem dX2_comparisonOf_6 : decode cX2_comparisonOf 6 = .ok (.bipush (-15), 2) := by decide +kernel
theorem dX2_comparisonOf_8 : decode cX2_comparisonOf 8 = .ok (.ireturn, 1) := by decide +kernel
theorem dX2_comparisonOf_9 : decode cX2_comparisonOf 9 = .ok (.iload_n 0, 1) := by decide +kernel
theorem dX2_comparisonOf_10 : decode cX2_comparisonOf 10 = .ok (.bipush 60, 2) := by decide +kernel
theorem dX2_comparisonOf_12 : decode cX2_comparisonOf 12 = .ok (.if_icmp .ne 6, 3) := by decide +kernel
theorem dX2_comparisonOf_15 : decode cX2_comparisonOf 15 = .ok (.bipush (-16), 2) := by decide +kernel
theorem dX2_comparisonOf_17 : decode cX2_comparisonOf 17 = .ok (.ireturn, 1) := by decide +kernel
theorem dX2_comparisonOf_18 : decode cX2_comparisonOf 18 = .ok (.iload_n 0, 1) := by decide +kernel
theorem dX2_comparisonOf_19 : decode cX2_comparisonOf 19 = .ok (.bipush 62, 2) := by decide +kernel
theorem dX2_comparisonOf_21 : decode cX2_comparisonOf 21 = .ok (.if_icmp .ne 8, 3) := by decide +kernel
theorem dX2_comparisonOf_24 : decode cX2_comparisonOf 24 = .ok (.bipush (-17), 2) := by decide +kernel
theorem dX2_comparisonOf_26 : decode cX2_comparisonOf 26 = .ok (.goto 4, 3) := by decide +kernel
theorem dX2_comparisonOf_29 : decode cX2_comparisonOf 29 = .ok (.iconst 0, 1) := by decide +kernel
theorem dX2_comparisonOf_30 : decode cX2_comparisonOf 30 = .ok (.ireturn, 1) := by decide +kernel
theorem dX2_readSum_0 : decode cX2_readSum 0 = .ok (.aload_n 0, 1) := by decide +kernel
theorem dX2_readSum_1 : decode cX2_readSum 1 = .ok (.iload_n 1, 1) := by decide +kernel
theorem dX2_readSum_2 : decode cX2_readSum 2 = .ok (.invokevirtual 76, 3) := by decide +kernel
theorem dX2_readSum_5 : decode cX2_readSum 5 = .ok (.ifCond .ne 5, 3) := by decide +kernel
theorem dX2_readSum_8 : decode cX2_readSum 8 = .ok (.iconst 0, 1) := by decide +kernel
theorem dX2_readSum_9 : decode cX2_readSum 9 = .ok (.ireturn, 1) := by decide +kernel
theorem dX2_readSum_10 : decode cX2_readSum 10 = .ok (.iconst 0, 1) := by decide +kernel
theorem dX2_readSum_11 : decode cX2_readSum 11 = .ok (.istore_n 2, 1) := by decide +kernel
theorem dX2_readSum_12 : decode cX2_readSum 12 = .ok (.iload_n 2, 1) := by decide +kernel
theorem dX2_readSum_13 : decode cX2_readSum 13 = .ok (.sipush 240, 3) := by decide +kernel
theorem dX2_readSum_16 : decode cX2_readSum 16 = .ok (.if_icmp .gt 66, 3) := by decide +kernel
theorem dX2_readSum_19 : decode cX2_readSum 19 = .ok (.aload_n 0, 1) := by decide +kernel
theorem dX2_readSum_20 : decode cX2_readSum 20 = .ok (.getfield 24, 3) := by decide +kernel
theorem dX2_readSum_23 : decode cX2_readSum 23 = .ok (.aload_n 0, 1) := by decide +kernel
theorem dX2_readSum_24 : decode cX2_readSum 24 = .ok (.getfield 21, 3) := by decide +kernel
theorem dX2_readSum_27 : decode cX2_readSum 27 = .ok (.invokevirtual 43, 3) := by decide +kernel
theorem dX2_readSum_30 : decode cX2_readSum 30 = .ok (.istore_n 3, 1) := by decide +kernel
theorem dX2_readSum_31 : decode cX2_readSum 31 = .ok (.iload_n 3, 1) := by decide +kernel
theorem dX2_readSum_32 : decode cX2_readSum 32 = .ok (.bipush 43, 2) := by decide +kernel
theorem dX2_readSum_34 : decode cX2_readSum 34 = .ok (.if_icmp .eq 11, 3) := by decide +kernel
theorem dX2_readSum_37 : decode cX2_readSum 37 = .ok (.iload_n 3, 1) := by decide +kernel
theorem dX2_readSum_38 : decode cX2_readSum 38 = .ok (.bipush 45, 2) := by decide +kernel
theorem dX2_readSum_40 : decode cX2_readSum 40 = .ok (.if_icmp .eq 5, 3) := by decide +kernel
theorem dX2_readSum_43 : decode cX2_readSum 43 = .ok (.iconst 1, 1) := by decide +kernel
theorem dX2_readSum_44 : decode cX2_readSum 44 = .ok (.ireturn, 1) := by decide +kernel
theorem dX2_readSum_45 : decode cX2_readSum 45 = .ok (.aload_n 0, 1) := by decide +kernel
theorem dX2_readSum_46 : decode cX2_readSum 46 = .ok (.invokevirtual 73, 3) := by decide +kernel
theorem dX2_readSum_49 : decode cX2_readSum 49 = .ok (.aload_n 0, 1) := by decide +kernel
theorem dX2_readSum_50 : decode cX2_readSum 50 = .ok (.iload_n 1, 1) := by decide +kernel
theorem dX2_readSum_51 : decode cX2_readSum 51 = .ok (.invokevirtual 76, 3) := by decide +kernel
theorem dX2_readSum_54 : decode cX2_readSum 54 = .ok (.ifCond .ne 5, 3) := by decide +kernel
theorem dX2_readSum_57 : decode cX2_readSum 57 = .ok (.iconst 0, 1) := by decide +kernel
theorem dX2_readSum_58 : decode cX2_readSum 58 = .ok (.ireturn, 1) := by decide +kernel
theorem dX2_readSum_59 : decode cX2_readSum 59 = .ok (.aload_n 0, 1) := by decide +kernel
theorem dX2_readSum_60 : decode cX2_readSum 60 = .ok (.iload_n 3, 1) := by decide +kernel
theorem dX2_readSum_61 : decode cX2_readSum 61 = .ok (.bipush 43, 2) := by decide +kernel
theorem dX2_readSum_63 : decode cX2_readSum 63 = .ok (.if_icmp .ne 8, 3) := by decide +kernel
theorem dX2_readSum_66 : decode cX2_readSum 66 = .ok (.bipush (-11), 2) := by decide +kernel
theorem dX2_readSum_68 : decode cX2_readSum 68 = .ok (.goto 5, 3) := by decide +kernel
theorem dX2_readSum_71 : decode cX2_readSum 71 = .ok (.bipush (-12), 2) := by decide +kernel
theorem dX2_readSum_73 : decode cX2_readSum 73 = .ok (.invokevirtual 66, 3) := by decide +kernel
theorem dX2_readSum_76 : decode cX2_readSum 76 = .ok (.iinc 2 1, 3) := by decide +kernel
theorem dX2_readSum_79 : decode cX2_readSum 79 = .ok (.goto (-67), 3) := by decide +kernel
theorem dX2_readSum_82 : decode cX2_readSum 82 = .ok (.iconst 1, 1) := by decide +kernel
theorem dX2_readSum_83 : decode cX2_readSum 83 = .ok (.ireturn, 1) := by decide +kernel
theorem dX2_readTerm_0 : decode cX2_readTerm 0 = .ok (.aload_n 0, 1) := by decide +kernel
theorem dX2_readTerm_1 : decode cX2_readTerm 1 = .ok (.iload_n 1, 1) := by decide +kernel
theorem dX2_readTerm_2 : decode cX2_readTerm 2 = .ok (.invokevirtual 79, 3) := by decide +kernel
theorem dX2_readTerm_5 : decode cX2_readTerm 5 = .ok (.ifCond .ne 5, 3) := by decide +kernel
theorem dX2_readTerm_8 : decode cX2_readTerm 8 = .ok (.iconst 0, 1) := by decide +kernel
theorem dX2_readTerm_9 : decode cX2_readTerm 9 = .ok (.ireturn, 1) := by decide +kernel
theorem dX2_readTerm_10 : decode cX2_readTerm 10 = .ok (.iconst 0, 1) := by decide +kernel
theorem dX2_readTerm_11 : decode cX2_readTerm 11 = .ok (.istore_n 2, 1) := by decide +kernel
theorem dX2_readTerm_12 : decode cX2_readTerm 12 = .ok (.iload_n 2, 1) := by decide +kernel
theorem dX2_readTerm_13 : decode cX2_readTerm 13 = .ok (.sipush 240, 3) := by decide +kernel
theorem dX2_readTerm_16 : decode cX2_readTerm 16 = .ok (.if_icmp .gt 66, 3) := by decide +kernel
theorem dX2_readTerm_19 : decode cX2_readTerm 19 = .ok (.aload_n 0, 1) := by decide +kernel
theorem dX2_readTerm_20 : decode cX2_readTerm 20 = .ok (.getfield 24, 3) := by decide +kernel
theorem dX2_readTerm_23 : decode cX2_readTerm 23 = .ok (.aload_n 0, 1) := by decide +kernel
theorem dX2_readTerm_24 : decode cX2_readTerm 24 = .ok (.getfield 21, 3) := by decide +kernel
theorem dX2_readTerm_27 : decode cX2_readTerm 27 = .ok (.invokevirtual 43, 3) := by decide +kernel
theorem dX2_readTerm_30 : decode cX2_readTerm 30 = .ok (.istore_n 3, 1) := by decide +kernel
theorem dX2_readTerm_31 : decode cX2_readTerm 31 = .ok (.iload_n 3, 1) := by decide +kernel
theorem dX2_readTerm_32 : decode cX2_readTerm 32 = .ok (.bipush 42, 2) := by decide +kernel
theorem dX2_readTerm_34 : decode cX2_readTerm 34 = .ok (.if_icmp .eq 11, 3) := by decide +kernel
theorem dX2_readTerm_37 : decode cX2_readTerm 37 = .ok (.iload_n 3, 1) := by decide +kernel
theorem dX2_readTerm_38 : decode cX2_readTerm 38 = .ok (.bipush 47, 2) := by decide +kernel
theorem dX2_readTerm_40 : decode cX2_readTerm 40 = .ok (.if_icmp .eq 5, 3) := by decide +kernel
theorem dX2_readTerm_43 : decode cX2_readTerm 43 = .ok (.iconst 1, 1) := by decide +kernel
theorem dX2_readTerm_44 : decode cX2_readTerm 44 = .ok (.ireturn, 1) := by decide +kernel
theorem dX2_readTerm_45 : decode cX2_readTerm 45 = .ok (.aload_n 0, 1) := by decide +kernel
theorem dX2_readTerm_46 : decode cX2_readTerm 46 = .ok (.invokevirtual 73, 3) := by decide +kernel
theorem dX2_readTerm_49 : decode cX2_readTerm 49 = .ok (.aload_n 0, 1) := by decide +kernel
theorem dX2_readTerm_50 : decode cX2_readTerm 50 = .ok (.iload_n 1, 1) := by decide +kernel
theorem dX2_readTerm_51 : decode cX2_readTerm 51 = .ok (.invokevirtual 79, 3) := by decide +kernel
theorem dX2_readTerm_54 : decode cX2_readTerm 54 = .ok (.ifCond .ne 5, 3) := by decide +kernel
theorem dX2_readTerm_57 : decode cX2_readTerm 57 = .ok (.iconst 0, 1) := by decide +kernel
theorem dX2_readTerm_58 : decode cX2_readTerm 58 = .ok (.ireturn, 1) := by decide +kernel
theorem dX2_readTerm_59 : decode cX2_readTerm 59 = .ok (.aload_n 0, 1) := by decide +kernel
theorem dX2_readTerm_60 : decode cX2_readTerm 60 = .ok (.iload_n 3, 1) := by decide +kernel
theorem dX2_readTerm_61 : decode cX2_readTerm 61 = .ok (.bipush 42, 2) := by decide +kernel
theorem dX2_readTerm_63 : decode cX2_readTerm 63 = .ok (.if_icmp .ne 8, 3) := by decide +kernel
theorem dX2_readTerm_66 : decode cX2_readTerm 66 = .ok (.bipush (-13), 2) := by decide +kernel
theorem dX2_readTerm_68 : decode cX2_readTerm 68 = .ok (.goto 5, 3) := by decide +kernel
theorem dX2_readTerm_71 : decode cX2_readTerm 71 = .ok (.bipush (-14), 2) := by decide +kernel
theorem dX2_readTerm_73 : decode cX2_readTerm 73 = .ok (.invokevirtual 66, 3) := by decide +kernel
theorem dX2_readTerm_76 : decode cX2_readTerm 76 = .ok (.iinc 2 1, 3) := by decide +kernel
theorem dX2_readTerm_79 : decode cX2_readTerm 79 = .ok (.goto (-67), 3) := by decide +kernel
theorem dX2_readTerm_82 : decode cX2_readTerm 82 = .ok (.iconst 1, 1) := by decide +kernel
theorem dX2_readTerm_83 : decode cX2_readTerm 83 = .ok (.ireturn, 1) := by decide +kernel
theorem dX2_readAtom_0 : decode cX2_readAtom 0 = .ok (.aload_n 0, 1) := by decide +kernel
theorem dX2_readAtom_1 : decode cX2_readAtom 1 = .ok (.getfield 24, 3) := by decide +kernel
theorem dX2_readAtom_4 : decode cX2_readAtom 4 = .ok (.aload_n 0, 1) := by decide +kernel
theorem dX2_readAtom_5 : decode cX2_readAtom 5 = .ok (.getfield 21, 3) := by decide +kernel
theorem dX2_readAtom_8 : decode cX2_readAtom 8 = .ok (.invokevirtual 43, 3) := by decide +kernel
theorem dX2_readAtom_11 : decode cX2_readAtom 11 = .ok (.istore_n 2, 1) := by decide +kernel
theorem dX2_readAtom_12 : decode cX2_readAtom 12 = .ok (.iload_n 2, 1) := by decide +kernel
theorem dX2_readAtom_13 : decode cX2_readAtom 13 = .ok (.iconst (-1), 1) := by decide +kernel
theorem dX2_readAtom_14 : decode cX2_readAtom 14 = .ok (.if_icmp .ne 5, 3) := by decide +kernel
theorem dX2_readAtom_17 : decode cX2_readAtom 17 = .ok (.iconst 0, 1) := by decide +kernel
theorem dX2_readAtom_18 : decode cX2_readAtom 18 = .ok (.ireturn, 1) := by decide +kernel
theorem dX2_readAtom_19 : decode cX2_readAtom 19 = .ok (.aload_n 0, 1) := by decide +kernel
theorem dX2_readAtom_20 : decode cX2_readAtom 20 = .ok (.getfield 24, 3) := by decide +kernel
theorem dX2_readAtom_23 : decode cX2_readAtom 23 = .ok (.aload_n 0, 1) := by decide +kernel
theorem dX2_readAtom_24 : decode cX2_readAtom 24 = .ok (.getfield 21, 3) := by decide +kernel
theorem dX2_readAtom_27 : decode cX2_readAtom 27 = .ok (.invokevirtual 82, 3) := by decide +kernel
theorem dX2_readAtom_30 : decode cX2_readAtom 30 = .ok (.ifCond .eq 8, 3) := by decide +kernel
theorem dX2_readAtom_33 : decode cX2_readAtom 33 = .ok (.aload_n 0, 1) := by decide +kernel
theorem dX2_readAtom_34 : decode cX2_readAtom 34 = .ok (.invokevirtual 85, 3) := by decide +kernel
theorem dX2_readAtom_37 : decode cX2_readAtom 37 = .ok (.ireturn, 1) := by decide +kernel
theorem dX2_readAtom_38 : decode cX2_readAtom 38 = .ok (.iload_n 2, 1) := by decide +kernel
theorem dX2_readAtom_39 : decode cX2_readAtom 39 = .ok (.bipush 91, 2) := by decide +kernel
theorem dX2_readAtom_41 : decode cX2_readAtom 41 = .ok (.if_icmp .ne 40, 3) := by decide +kernel
theorem dX2_readAtom_44 : decode cX2_readAtom 44 = .ok (.iload_n 1, 1) := by decide +kernel
theorem dX2_readAtom_45 : decode cX2_readAtom 45 = .ok (.bipush 6, 2) := by decide +kernel
theorem dX2_readAtom_47 : decode cX2_readAtom 47 = .ok (.if_icmp .lt 5, 3) := by decide +kernel
theorem dX2_readAtom_50 : decode cX2_readAtom 50 = .ok (.iconst 0, 1) := by decide +kernel
theorem dX2_readAtom_51 : decode cX2_readAtom 51 = .ok (.ireturn, 1) := by decide +kernel
theorem dX2_readAtom_52 : decode cX2_readAtom 52 = .ok (.aload_n 0, 1) := by decide +kernel
theorem dX2_readAtom_53 : decode cX2_readAtom 53 = .ok (.invokevirtual 73, 3) := by decide +kernel
theorem dX2_readAtom_56 : decode cX2_readAtom 56 = .ok (.aload_n 0, 1) := by decide +kernel
theorem dX2_readAtom_57 : decode cX2_readAtom 57 = .ok (.iload_n 1, 1) := by decide +kernel
theorem dX2_readAtom_58 : decode cX2_readAtom 58 = .ok (.iconst 1, 1) := by decide +kernel
theorem dX2_readAtom_59 : decode cX2_readAtom 59 = .ok (.iadd, 1) := by decide +kernel
theorem dX2_readAtom_60 : decode cX2_readAtom 60 = .ok (.invokevirtual 48, 3) := by decide +kernel
theorem dX2_readAtom_63 : decode cX2_readAtom 63 = .ok (.ifCond .eq 16, 3) := by decide +kernel
theorem dX2_readAtom_66 : decode cX2_readAtom 66 = .ok (.aload_n 0, 1) := by decide +kernel
theorem dX2_readAtom_67 : decode cX2_readAtom 67 = .ok (.bipush 93, 2) := by decide +kernel
theorem dX2_readAtom_69 : decode cX2_readAtom 69 = .ok (.invokevirtual 39, 3) := by decide +kernel
theorem dX2_readAtom_72 : decode cX2_readAtom 72 = .ok (.ifCond .eq 7, 3) := by decide +kernel
theorem dX2_readAtom_75 : decode cX2_readAtom 75 = .ok (.iconst 1, 1) := by decide +kernel
theorem dX2_readAtom_76 : decode cX2_readAtom 76 = .ok (.goto 4, 3) := by decide +kernel
theorem dX2_readAtom_79 : decode cX2_readAtom 79 = .ok (.iconst 0, 1) := by decide +kernel
theorem dX2_readAtom_80 : decode cX2_readAtom 80 = .ok (.ireturn, 1) := by decide +kernel
theorem dX2_readAtom_81 : decode cX2_readAtom 81 = .ok (.ldc 88, 2) := by decide +kernel
theorem dX2_readAtom_83 : decode cX2_readAtom 83 = .ok (.iload_n 2, 1) := by decide +kernel
theorem dX2_readAtom_84 : decode cX2_readAtom 84 = .ok (.i2c, 1) := by decide +kernel
theorem dX2_readAtom_85 : decode cX2_readAtom 85 = .ok (.invokevirtual 90, 3) := by decide +kernel
theorem dX2_readAtom_88 : decode cX2_readAtom 88 = .ok (.istore_n 3, 1) := by decide +kernel
theorem dX2_readAtom_89 : decode cX2_readAtom 89 = .ok (.iload_n 3, 1) := by decide +kernel
theorem dX2_readAtom_90 : decode cX2_readAtom 90 = .ok (.ifCond .ge 5, 3) := by decide +kernel
theorem dX2_readAtom_93 : decode cX2_readAtom 93 = .ok (.iconst 0, 1) := by decide +kernel
theorem dX2_readAtom_94 : decode cX2_readAtom 94 = .ok (.ireturn, 1) := by decide +kernel
theorem dX2_readAtom_95 : decode cX2_readAtom 95 = .ok (.aload_n 0, 1) := by decide +kernel
theorem dX2_readAtom_96 : decode cX2_readAtom 96 = .ok (.iconst (-1), 1) := by decide +kernel
theorem dX2_readAtom_97 : decode cX2_readAtom 97 = .ok (.iload_n 3, 1) := by decide +kernel
theorem dX2_readAtom_98 : decode cX2_readAtom 98 = .ok (.isub, 1) := by decide +kernel
theorem dX2_readAtom_99 : decode cX2_readAtom 99 = .ok (.invokevirtual 66, 3) := by decide +kernel
theorem dX2_readAtom_102 : decode cX2_readAtom 102 = .ok (.aload_n 0, 1) := by decide +kernel
theorem dX2_readAtom_103 : decode cX2_readAtom 103 = .ok (.invokevirtual 73, 3) := by decide +kernel
theorem dX2_readAtom_106 : decode cX2_readAtom 106 = .ok (.iconst 1, 1) := by decide +kernel
theorem dX2_readAtom_107 : decode cX2_readAtom 107 = .ok (.ireturn, 1) := by decide +kernel
theorem dX2_readNumber_0 : decode cX2_readNumber 0 = .ok (.iconst 0, 1) := by decide +kernel
theorem dX2_readNumber_1 : decode cX2_readNumber 1 = .ok (.istore_n 1, 1) := by decide +kernel
theorem dX2_readNumber_2 : decode cX2_readNumber 2 = .ok (.iconst 0, 1) := by decide +kernel
theorem dX2_readNumber_3 : decode cX2_readNumber 3 = .ok (.istore_n 2, 1) := by decide +kernel
theorem dX2_readNumber_4 : decode cX2_readNumber 4 = .ok (.iload_n 2, 1) := by decide +kernel
theorem dX2_readNumber_5 : decode cX2_readNumber 5 = .ok (.iconst 4, 1) := by decide +kernel
theorem dX2_readNumber_6 : decode cX2_readNumber 6 = .ok (.if_icmp .ge 53, 3) := by decide +kernel
theorem dX2_readNumber_9 : decode cX2_readNumber 9 = .ok (.aload_n 0, 1) := by decide +kernel
theorem dX2_readNumber_10 : decode cX2_readNumber 10 = .ok (.getfield 24, 3) := by decide +kernel
theorem dX2_readNumber_13 : decode cX2_readNumber 13 = .ok (.aload_n 0, 1) := by decide +kernel
theorem dX2_readNumber_14 : decode cX2_readNumber 14 = .ok (.getfield 21, 3) := by decide +kernel
theorem dX2_readNumber_17 : decode cX2_readNumber 17 = .ok (.invokevirtual 82, 3) := by decide +kernel
theorem dX2_readNumber_20 : decode cX2_readNumber 20 = .ok (.ifCond .eq 39, 3) := by decide +kernel
theorem dX2_readNumber_23 : decode cX2_readNumber 23 = .ok (.iload_n 1, 1) := by decide +kernel
theorem dX2_readNumber_24 : decode cX2_readNumber 24 = .ok (.bipush 10, 2) := by decide +kernel
theorem dX2_readNumber_26 : decode cX2_readNumber 26 = .ok (.imul, 1) := by decide +kernel
theorem dX2_readNumber_27 : decode cX2_readNumber 27 = .ok (.aload_n 0, 1) := by decide +kernel
theorem dX2_readNumber_28 : decode cX2_readNumber 28 = .ok (.getfield 24, 3) := by decide +kernel
theorem dX2_readNumber_31 : decode cX2_readNumber 31 = .ok (.aload_n 0, 1) := by decide +kernel
theorem dX2_readNumber_32 : decode cX2_readNumber 32 = .ok (.getfield 21, 3) := by decide +kernel
theorem dX2_readNumber_35 : decode cX2_readNumber 35 = .ok (.invokevirtual 43, 3) := by decide +kernel
theorem dX2_readNumber_38 : decode cX2_readNumber 38 = .ok (.iadd, 1) := by decide +kernel
theorem dX2_readNumber_39 : decode cX2_readNumber 39 = .ok (.bipush 48, 2) := by decide +kernel
theorem dX2_readNumber_41 : decode cX2_readNumber 41 = .ok (.isub, 1) := by decide +kernel
theorem dX2_readNumber_42 : decode cX2_readNumber 42 = .ok (.istore_n 1, 1) := by decide +kernel
theorem dX2_readNumber_43 : decode cX2_readNumber 43 = .ok (.aload_n 0, 1) := by decide +kernel
theorem dX2_readNumber_44 : decode cX2_readNumber 44 = .ok (.dup, 1) := by decide +kernel
theorem dX2_readNumber_45 : decode cX2_readNumber 45 = .ok (.getfield 21, 3) := by decide +kernel
theorem dX2_readNumber_48 : decode cX2_readNumber 48 = .ok (.iconst 1, 1) := by decide +kernel
theorem dX2_readNumber_49 : decode cX2_readNumber 49 = .ok (.iadd, 1) := by decide +kernel
theorem dX2_readNumber_50 : decode cX2_readNumber 50 = .ok (.putfield 21, 3) := by decide +kernel
theorem dX2_readNumber_53 : decode cX2_readNumber 53 = .ok (.iinc 2 1, 3) := by decide +kernel
theorem dX2_readNumber_56 : decode cX2_readNumber 56 = .ok (.goto (-52), 3) := by decide +kernel
theorem dX2_readNumber_59 : decode cX2_readNumber 59 = .ok (.aload_n 0, 1) := by decide +kernel
theorem dX2_readNumber_60 : decode cX2_readNumber 60 = .ok (.getfield 24, 3) := by decide +kernel
theorem dX2_readNumber_63 : decode cX2_readNumber 63 = .ok (.aload_n 0, 1) := by decide +kernel
theorem dX2_readNumber_64 : decode cX2_readNumber 64 = .ok (.getfield 21, 3) := by decide +kernel
theorem dX2_readNumber_67 : decode cX2_readNumber 67 = .ok (.invokevirtual 82, 3) := by decide +kernel
theorem dX2_readNumber_70 : decode cX2_readNumber 70 = .ok (.ifCond .eq 5, 3) := by decide +kernel
theorem dX2_readNumber_73 : decode cX2_readNumber 73 = .ok (.iconst 0, 1) := by decide +kernel
theorem dX2_readNumber_74 : decode cX2_readNumber 74 = .ok (.ireturn, 1) := by decide +kernel
theorem dX2_readNumber_75 : decode cX2_readNumber 75 = .ok (.aload_n 0, 1) := by decide +kernel
theorem dX2_readNumber_76 : decode cX2_readNumber 76 = .ok (.iload_n 1, 1) := by decide +kernel
theorem dX2_readNumber_77 : decode cX2_readNumber 77 = .ok (.invokevirtual 66, 3) := by decide +kernel
theorem dX2_readNumber_80 : decode cX2_readNumber 80 = .ok (.aload_n 0, 1) := by decide +kernel
theorem dX2_readNumber_81 : decode cX2_readNumber 81 = .ok (.aload_n 0, 1) := by decide +kernel
theorem dX2_readNumber_82 : decode cX2_readNumber 82 = .ok (.getfield 24, 3) := by decide +kernel
theorem dX2_readNumber_85 : decode cX2_readNumber 85 = .ok (.aload_n 0, 1) := by decide +kernel
theorem dX2_readNumber_86 : decode cX2_readNumber 86 = .ok (.getfield 21, 3) := by decide +kernel
theorem dX2_readNumber_89 : decode cX2_readNumber 89 = .ok (.invokevirtual 28, 3) := by decide +kernel
theorem dX2_readNumber_92 : decode cX2_readNumber 92 = .ok (.putfield 21, 3) := by decide +kernel
theorem dX2_readNumber_95 : decode cX2_readNumber 95 = .ok (.iconst 1, 1) := by decide +kernel
theorem dX2_readNumber_96 : decode cX2_readNumber 96 = .ok (.ireturn, 1) := by decide +kernel
theorem dX2_takes_0 : decode cX2_takes 0 = .ok (.aload_n 0, 1) := by decide +kernel
theorem dX2_takes_1 : decode cX2_takes 1 = .ok (.getfield 24, 3) := by decide +kernel
theorem dX2_takes_4 : decode cX2_takes 4 = .ok (.aload_n 0, 1) := by decide +kernel
theorem dX2_takes_5 : decode cX2_takes 5 = .ok (.getfield 21, 3) := by decide +kernel
theorem dX2_takes_8 : decode cX2_takes 8 = .ok (.invokevirtual 43, 3) := by decide +kernel
theorem dX2_takes_11 : decode cX2_takes 11 = .ok (.iload_n 1, 1) := by decide +kernel
theorem dX2_takes_12 : decode cX2_takes 12 = .ok (.if_icmp .eq 5, 3) := by decide +kernel
theorem dX2_takes_15 : decode cX2_takes 15 = .ok (.iconst 0, 1) := by decide +kernel
theorem dX2_takes_16 : decode cX2_takes 16 = .ok (.ireturn, 1) := by decide +kernel
theorem dX2_takes_17 : decode cX2_takes 17 = .ok (.aload_n 0, 1) := by decide +kernel
theorem dX2_takes_18 : decode cX2_takes 18 = .ok (.aload_n 0, 1) := by decide +kernel
theorem dX2_takes_19 : decode cX2_takes 19 = .ok (.getfield 24, 3) := by decide +kernel
theorem dX2_takes_22 : decode cX2_takes 22 = .ok (.aload_n 0, 1) := by decide +kernel
theorem dX2_takes_23 : decode cX2_takes 23 = .ok (.getfield 21, 3) := by decide +kernel
theorem dX2_takes_26 : decode cX2_takes 26 = .ok (.iconst 1, 1) := by decide +kernel
theorem dX2_takes_27 : decode cX2_takes 27 = .ok (.iadd, 1) := by decide +kernel
theorem dX2_takes_28 : decode cX2_takes 28 = .ok (.invokevirtual 28, 3) := by decide +kernel
theorem dX2_takes_31 : decode cX2_takes 31 = .ok (.putfield 21, 3) := by decide +kernel
theorem dX2_takes_34 : decode cX2_takes 34 = .ok (.iconst 1, 1) := by decide +kernel
theorem dX2_takes_35 : decode cX2_takes 35 = .ok (.ireturn, 1) := by decide +kernel
theorem dX2_put_0 : decode cX2_put 0 = .ok (.aload_n 0, 1) := by decide +kernel
theorem dX2_put_1 : decode cX2_put 1 = .ok (.getfield 17, 3) := by decide +kernel
theorem dX2_put_4 : decode cX2_put 4 = .ok (.ifCond .lt 35, 3) := by decide +kernel
theorem dX2_put_7 : decode cX2_put 7 = .ok (.aload_n 0, 1) := by decide +kernel
theorem dX2_put_8 : decode cX2_put 8 = .ok (.getfield 17, 3) := by decide +kernel
theorem dX2_put_11 : decode cX2_put 11 = .ok (.aload_n 0, 1) := by decide +kernel
theorem dX2_put_12 : decode cX2_put 12 = .ok (.getfield 11, 3) := by decide +kernel
theorem dX2_put_15 : decode cX2_put 15 = .ok (.arraylength, 1) := by decide +kernel
theorem dX2_put_16 : decode cX2_put 16 = .ok (.if_icmp .ge 23, 3) := by decide +kernel
theorem dX2_put_19 : decode cX2_put 19 = .ok (.aload_n 0, 1) := by decide +kernel
theorem dX2_put_20 : decode cX2_put 20 = .ok (.getfield 11, 3) := by decide +kernel
theorem dX2_put_23 : decode cX2_put 23 = .ok (.aload_n 0, 1) := by decide +kernel
theorem dX2_put_24 : decode cX2_put 24 = .ok (.getfield 17, 3) := by decide +kernel
theorem dX2_put_27 : decode cX2_put 27 = .ok (.iload_n 1, 1) := by decide +kernel
theorem dX2_put_28 : decode cX2_put 28 = .ok (.iastore, 1) := by decide +kernel
theorem dX2_put_29 : decode cX2_put 29 = .ok (.aload_n 0, 1) := by decide +kernel
theorem dX2_put_30 : decode cX2_put 30 = .ok (.dup, 1) := by decide +kernel
theorem dX2_put_31 : decode cX2_put 31 = .ok (.getfield 17, 3) := by decide +kernel
theorem dX2_put_34 : decode cX2_put 34 = .ok (.iconst 1, 1) := by decide +kernel
theorem dX2_put_35 : decode cX2_put 35 = .ok (.iadd, 1) := by decide +kernel
theorem dX2_put_36 : decode cX2_put 36 = .ok (.putfield 17, 3) := by decide +kernel
theorem dX2_put_39 : decode cX2_put 39 = .ok (.return_, 1) := by decide +kernel
theorem dX2_goOn_0 : decode cX2_goOn 0 = .ok (.aload_n 0, 1) := by decide +kernel
theorem dX2_goOn_1 : decode cX2_goOn 1 = .ok (.aload_n 0, 1) := by decide +kernel
theorem dX2_goOn_2 : decode cX2_goOn 2 = .ok (.getfield 24, 3) := by decide +kernel
theorem dX2_goOn_5 : decode cX2_goOn 5 = .ok (.aload_n 0, 1) := by decide +kernel
theorem dX2_goOn_6 : decode cX2_goOn 6 = .ok (.getfield 21, 3) := by decide +kernel
theorem dX2_goOn_9 : decode cX2_goOn 9 = .ok (.iconst 1, 1) := by decide +kernel
theorem dX2_goOn_10 : decode cX2_goOn 10 = .ok (.iadd, 1) := by decide +kernel
theorem dX2_goOn_11 : decode cX2_goOn 11 = .ok (.invokevirtual 28, 3) := by decide +kernel
theorem dX2_goOn_14 : decode cX2_goOn 14 = .ok (.putfield 21, 3) := by decide +kernel
theorem dX2_goOn_17 : decode cX2_goOn 17 = .ok (.return_, 1) := by decide +kernel
theorem dX3_init_0 : decode cX3_init 0 = .ok (.aload_n 0, 1) := by decide +kernel
theorem dX3_init_1 : decode cX3_init 1 = .ok (.invokespecial 5, 3) := by decide +kernel
theorem dX3_init_4 : decode cX3_init 4 = .ok (.aload_n 0, 1) := by decide +kernel
theorem dX3_init_5 : decode cX3_init 5 = .ok (.iconst 4, 1) := by decide +kernel
theorem dX3_init_6 : decode cX3_init 6 = .ok (.sipush 240, 3) := by decide +kernel
theorem dX3_init_9 : decode cX3_init 9 = .ok (.multianewarray 13 2, 4) := by decide +kernel
theorem dX3_init_13 : decode cX3_init 13 = .ok (.putfield 15, 3) := by decide +kernel
theorem dX3_init_16 : decode cX3_init 16 = .ok (.aload_n 0, 1) := by decide +kernel
theorem dX3_init_17 : decode cX3_init 17 = .ok (.iconst 4, 1) := by decide +kernel
theorem dX3_init_18 : decode cX3_init 18 = .ok (.newarray .int, 2) := by decide +kernel
theorem dX3_init_20 : decode cX3_init 20 = .ok (.putfield 18, 3) := by decide +kernel
theorem dX3_init_23 : decode cX3_init 23 = .ok (.aload_n 0, 1) := by decide +kernel
theorem dX3_init_24 : decode cX3_init 24 = .ok (.bipush 32, 2) := by decide +kernel
theorem dX3_init_26 : decode cX3_init 26 = .ok (.newarray .int, 2) := by decide +kernel
theorem dX3_init_28 : decode cX3_init 28 = .ok (.putfield 22, 3) := by decide +kernel
theorem dX3_init_31 : decode cX3_init 31 = .ok (.aload_n 0, 1) := by decide +kernel
theorem dX3_init_32 : decode cX3_init 32 = .ok (.bipush 6, 2) := by decide +kernel
theorem dX3_init_34 : decode cX3_init 34 = .ok (.newarray .int, 2) := by decide +kernel
theorem dX3_init_36 : decode cX3_init 36 = .ok (.putfield 25, 3) := by decide +kernel
theorem dX3_init_39 : decode cX3_init 39 = .ok (.aload_n 0, 1) := by decide +kernel
theorem dX3_init_40 : decode cX3_init 40 = .ok (.iconst 4, 1) := by decide +kernel
theorem dX3_init_41 : decode cX3_init 41 = .ok (.newarray .int, 2) := by decide +kernel
theorem dX3_init_43 : decode cX3_init 43 = .ok (.putfield 28, 3) := by decide +kernel
theorem dX3_init_46 : decode cX3_init 46 = .ok (.aload_n 0, 1) := by decide +kernel
theorem dX3_init_47 : decode cX3_init 47 = .ok (.iconst 0, 1) := by decide +kernel
theorem dX3_init_48 : decode cX3_init 48 = .ok (.putfield 31, 3) := by decide +kernel
theorem dX3_init_51 : decode cX3_init 51 = .ok (.aload_n 0, 1) := by decide +kernel
theorem dX3_init_52 : decode cX3_init 52 = .ok (.iconst (-1), 1) := by decide +kernel
theorem dX3_init_53 : decode cX3_init 53 = .ok (.putfield 35, 3) := by decide +kernel
theorem dX3_init_56 : decode cX3_init 56 = .ok (.return_, 1) := by decide +kernel
theorem dX3_has_0 : decode cX3_has 0 = .ok (.iload_n 1, 1) := by decide +kernel
theorem dX3_has_1 : decode cX3_has 1 = .ok (.ifCond .lt 20, 3) := by decide +kernel
theorem dX3_has_4 : decode cX3_has 4 = .ok (.iload_n 1, 1) := by decide +kernel
theorem dX3_has_5 : decode cX3_has 5 = .ok (.aload_n 0, 1) := by decide +kernel
theorem dX3_has_6 : decode cX3_has 6 = .ok (.getfield 31, 3) := by decide +kernel
theorem dX3_has_9 : decode cX3_has 9 = .ok (.if_icmp .ge 12, 3) := by decide +kernel
theorem dX3_has_12 : decode cX3_has 12 = .ok (.iload_n 1, 1) := by decide +kernel
theorem dX3_has_13 : decode cX3_has 13 = .ok (.iconst 4, 1) := by decide +kernel
theorem dX3_has_14 : decode cX3_has 14 = .ok (.if_icmp .ge 7, 3) := by decide +kernel
theorem dX3_has_17 : decode cX3_has 17 = .ok (.iconst 1, 1) := by decide +kernel
theorem dX3_has_18 : decode cX3_has 18 = .ok (.goto 4, 3) := by decide +kernel
theorem dX3_has_21 : decode cX3_has 21 = .ok (.iconst 0, 1) := by decide +kernel
theorem dX3_has_22 : decode cX3_has 22 = .ok (.ireturn, 1) := by decide +kernel
theorem dX3_add_0 : decode cX3_add 0 = .ok (.aload_n 0, 1) := by decide +kernel
theorem dX3_add_1 : decode cX3_add 1 = .ok (.getfield 31, 3) := by decide +kernel
theorem dX3_add_4 : decode cX3_add 4 = .ok (.iconst 4, 1) := by decide +kernel
theorem dX3_add_5 : decode cX3_add 5 = .ok (.if_icmp .ge 20, 3) := by decide +kernel
theorem dX3_add_8 : decode cX3_add 8 = .ok (.aload_n 1, 1) := by decide +kernel
theorem dX3_add_9 : decode cX3_add 9 = .ok (.getfield 38, 3) := by decide +kernel
theorem dX3_add_12 : decode cX3_add 12 = .ok (.sipush 240, 3) := by decide +kernel
theorem dX3_add_15 : decode cX3_add 15 = .ok (.if_icmp .gt 10, 3) := by decide +kernel
theorem dX3_add_18 : decode cX3_add 18 = .ok (.aload_n 1, 1) := by decide +kernel
theorem dX3_add_19 : decode cX3_add 19 = .ok (.getfield 38, 3) := by decide +kernel
theorem dX3_add_22 : decode cX3_add 22 = .ok (.ifCond .ge 4, 3) := by decide +kernel
theorem dX3_add_25 : decode cX3_add 25 = .ok (.return_, 1) := by decide +kernel
theorem dX3_add_26 : decode cX3_add 26 = .ok (.aload_n 1, 1) := by decide +kernel
theorem dX3_add_27 : decode cX3_add 27 = .ok (.getfield 43, 3) := by decide +kernel
theorem dX3_add_30 : decode cX3_add 30 = .ok (.iconst 0, 1) := by decide +kernel
theorem dX3_add_31 : decode cX3_add 31 = .ok (.aload_n 0, 1) := by decide +kernel
theorem dX3_add_32 : decode cX3_add 32 = .ok (.getfield 15, 3) := by decide +kernel
theorem dX3_add_35 : decode cX3_add 35 = .ok (.aload_n 0, 1) := by decide +kernel
theorem dX3_add_36 : decode cX3_add 36 = .ok (.getfield 31, 3) := by decide +kernel
theorem dX3_add_39 : decode cX3_add 39 = .ok (.aaload, 1) := by decide +kernel
theorem dX3_add_40 : decode cX3_add 40 = .ok (.iconst 0, 1) := by decide +kernel
theorem dX3_add_41 : decode cX3_add 41 = .ok (.aload_n 1, 1) := by decide +kernel
theorem dX3_add_42 : decode cX3_add 42 = .ok (.getfield 38, 3) := by decide +kernel
theorem dX3_add_45 : decode cX3_add 45 = .ok (.invokestatic 45, 3) := by decide +kernel
theorem dX3_add_48 : decode cX3_add 48 = .ok (.aload_n 0, 1) := by decide +kernel
theorem dX3_add_49 : decode cX3_add 49 = .ok (.getfield 18, 3) := by decide +kernel
theorem dX3_add_52 : decode cX3_add 52 = .ok (.aload_n 0, 1) := by decide +kernel
theorem dX3_add_53 : decode cX3_add 53 = .ok (.getfield 31, 3) := by decide +kernel
theorem dX3_add_56 : decode cX3_add 56 = .ok (.aload_n 1, 1) := by decide +kernel
theorem dX3_add_57 : decode cX3_add 57 = .ok (.getfield 38, 3) := by decide +kernel
theorem dX3_add_60 : decode cX3_add 60 = .ok (.iastore, 1) := by decide +kernel
theorem dX3_add_61 : decode cX3_add 61 = .ok (.aload_n 0, 1) := by decide +kernel
theorem dX3_add_62 : decode cX3_add 62 = .ok (.dup, 1) := by decide +kernel
theorem dX3_add_63 : decode cX3_add 63 = .ok (.getfield 31, 3) := by decide +kernel
theorem dX3_add_66 : decode cX3_add 66 = .ok (.iconst 1, 1) := by decide +kernel
theorem dX3_add_67 : decode cX3_add 67 = .ok (.iadd, 1) := by decide +kernel
theorem dX3_add_68 : decode cX3_add 68 = .ok (.putfield 31, 3) := by decide +kernel
theorem dX3_add_71 : decode cX3_add 71 = .ok (.return_, 1) := by decide +kernel
theorem dX3_throughAll_0 : decode cX3_throughAll 0 = .ok (.iconst (-1), 1) := by decide +kernel
theorem dX3_throughAll_1 : decode cX3_throughAll 1 = .ok (.istore_n 2, 1) := by decide +kernel
theorem dX3_throughAll_2 : decode cX3_throughAll 2 = .ok (.iconst 0, 1) := by decide +kernel
theorem dX3_throughAll_3 : decode cX3_throughAll 3 = .ok (.istore_n 3, 1) := by decide +kernel
theorem dX3_throughAll_4 : decode cX3_throughAll 4 = .ok (.iload_n 3, 1) := by decide +kernel
theorem dX3_throughAll_5 : decode cX3_throughAll 5 = .ok (.aload_n 0, 1) := by decide +kernel
theorem dX3_throughAll_6 : decode cX3_throughAll 6 = .ok (.getfield 31, 3) := by decide +kernel
theorem dX3_throughAll_9 : decode cX3_throughAll 9 = .ok (.if_icmp .ge 35, 3) := by decide +kernel
theorem dX3_throughAll_12 : decode cX3_throughAll 12 = .ok (.iload_n 3, 1) := by decide +kernel
theorem dX3_throughAll_13 : decode cX3_throughAll 13 = .ok (.iconst 4, 1) := by decide +kernel
theorem dX3_throughAll_14 : decode cX3_throughAll 14 = .ok (.if_icmp .ge 30, 3) := by decide +kernel
theorem dX3_throughAll_17 : decode cX3_throughAll 17 = .ok (.iload_n 2, 1) := by decide +kernel
theorem dX3_throughAll_18 : decode cX3_throughAll 18 = .ok (.iload_n 1, 1) := by decide +kernel
theorem dX3_throughAll_19 : decode cX3_throughAll 19 = .ok (.iload_n 3, 1) := by decide +kernel
theorem dX3_throughAll_20 : decode cX3_throughAll 20 = .ok (.ishr, 1) := by decide +kernel
theorem dX3_throughAll_21 : decode cX3_throughAll 21 = .ok (.iconst 1, 1) := by decide +kernel
theorem dX3_throughAll_22 : decode cX3_throughAll 22 = .ok (.iand, 1) := by decide +kernel
theorem dX3_throughAll_23 : decode cX3_throughAll 23 = .ok (.ifCond .eq 12, 3) := by decide +kernel
theorem dX3_throughAll_26 : decode cX3_throughAll 26 = .ok (.aload_n 0, 1) := by decide +kernel
theorem dX3_throughAll_27 : decode cX3_throughAll 27 = .ok (.getfield 28, 3) := by decide +kernel
theorem dX3_throughAll_30 : decode cX3_throughAll 30 = .ok (.iload_n 3, 1) := by decide +kernel
theorem dX3_throughAll_31 : decode cX3_throughAll 31 = .ok (.iaload, 1) := by decide +kernel
theorem dX3_throughAll_32 : decode cX3_throughAll 32 = .ok (.goto 4, 3) := by decide +kernel
theorem dX3_throughAll_35 : decode cX3_throughAll 35 = .ok (.iconst (-1), 1) := by decide +kernel
theorem dX3_throughAll_36 : decode cX3_throughAll 36 = .ok (.iand, 1) := by decide +kernel
theorem dX3_throughAll_37 : decode cX3_throughAll 37 = .ok (.istore_n 2, 1) := by decide +kernel
theorem dX3_throughAll_38 : decode cX3_throughAll 38 = .ok (.iinc 3 1, 3) := by decide +kernel
theorem dX3_throughAll_41 : decode cX3_throughAll 41 = .ok (.goto (-37), 3) := by decide +kernel
theorem dX3_throughAll_44 : decode cX3_throughAll 44 = .ok (.iload_n 2, 1) := by decide +kernel
theorem dX3_throughAll_45 : decode cX3_throughAll 45 = .ok (.ireturn, 1) := by decide +kernel
theorem dX3_worth_0 : decode cX3_worth 0 = .ok (.aload_n 0, 1) := by decide +kernel
theorem dX3_worth_1 : decode cX3_worth 1 = .ok (.iload_n 1, 1) := by decide +kernel
theorem dX3_worth_2 : decode cX3_worth 2 = .ok (.invokevirtual 51, 3) := by decide +kernel
theorem dX3_worth_5 : decode cX3_worth 5 = .ok (.ifCond .ne 5, 3) := by decide +kernel
theorem dX3_worth_8 : decode cX3_worth 8 = .ok (.iconst 0, 1) := by decide +kernel
theorem dX3_worth_9 : decode cX3_worth 9 = .ok (.ireturn, 1) := by decide +kernel
theorem dX3_worth_10 : decode cX3_worth 10 = .ok (.aload_n 0, 1) := by decide +kernel
theorem dX3_worth_11 : decode cX3_worth 11 = .ok (.getfield 15, 3) := by decide +kernel
theorem dX3_worth_14 : decode cX3_worth 14 = .ok (.iload_n 1, 1) := by decide +kernel
theorem dX3_worth_15 : decode cX3_worth 15 = .ok (.aaload, 1) := by decide +kernel
theorem dX3_worth_16 : decode cX3_worth 16 = .ok (.astore_n 2, 1) := by decide +kernel
theorem dX3_worth_17 : decode cX3_worth 17 = .ok (.iconst 0, 1) := by decide +kernel
theorem dX3_worth_18 : decode cX3_worth 18 = .ok (.istore_n 3, 1) := by decide +kernel
theorem dX3_worth_19 : decode cX3_worth 19 = .ok (.iconst 0, 1) := by decide +kernel
theorem dX3_worth_20 : decode cX3_worth 20 = .ok (.istore 4, 2) := by decide +kernel
theorem dX3_worth_22 : decode cX3_worth 22 = .ok (.iconst 0, 1) := by decide +kernel
theorem dX3_worth_23 : decode cX3_worth 23 = .ok (.istore 5, 2) := by decide +kernel
theorem dX3_worth_25 : decode cX3_worth 25 = .ok (.iload 5, 2) := by decide +kernel
theorem dX3_worth_27 : decode cX3_worth 27 = .ok (.aload_n 0, 1) := by decide +kernel
theorem dX3_worth_28 : decode cX3_worth 28 = .ok (.getfield 18, 3) := by decide +kernel
theorem dX3_worth_31 : decode cX3_worth 31 = .ok (.iload_n 1, 1) := by decide +kernel
theorem dX3_worth_32 : decode cX3_worth 32 = .ok (.iaload, 1) := by decide +kernel
theorem dX3_worth_33 : decode cX3_worth 33 = .ok (.if_icmp .ge 218, 3) := by decide +kernel
theorem dX3_worth_36 : decode cX3_worth 36 = .ok (.iload 5, 2) := by decide +kernel
theorem dX3_worth_38 : decode cX3_worth 38 = .ok (.sipush 240, 3) := by decide +kernel
theorem dX3_worth_41 : decode cX3_worth 41 = .ok (.if_icmp .ge 210, 3) := by decide +kernel
theorem dX3_worth_44 : decode cX3_worth 44 = .ok (.aload_n 2, 1) := by decide +kernel
theorem dX3_worth_45 : decode cX3_worth 45 = .ok (.iload 5, 2) := by decide +kernel
theorem dX3_worth_47 : decode cX3_worth 47 = .ok (.iaload, 1) := by decide +kernel
theorem dX3_worth_48 : decode cX3_worth 48 = .ok (.istore 6, 2) := by decide +kernel
theorem dX3_worth_50 : decode cX3_worth 50 = .ok (.iload 4, 2) := by decide +kernel
theorem dX3_worth_52 : decode cX3_worth 52 = .ok (.ifCond .eq 20, 3) := by decide +kernel
theorem dX3_worth_55 : decode cX3_worth 55 = .ok (.iload 6, 2) := by decide +kernel
theorem dX3_worth_57 : decode cX3_worth 57 = .ok (.bipush (-22), 2) := by decide +kernel
theorem dX3_worth_59 : decode cX3_worth 59 = .ok (.if_icmp .eq 7, 3) := by decide +kernel
theorem dX3_worth_62 : decode cX3_worth 62 = .ok (.iconst 1, 1) := by decide +kernel
theorem dX3_worth_63 : decode cX3_worth 63 = .ok (.goto 4, 3) := by decide +kernel
theorem dX3_worth_66 : decode cX3_worth 66 = .ok (.iconst 0, 1) := by decide +kernel
theorem dX3_worth_67 : decode cX3_worth 67 = .ok (.istore 4, 2) := by decide +kernel
theorem dX3_worth_69 : decode cX3_worth 69 = .ok (.goto 176, 3) := by decide +kernel
theorem dX3_worth_72 : decode cX3_worth 72 = .ok (.iload 6, 2) := by decide +kernel
theorem dX3_worth_74 : decode cX3_worth 74 = .ok (.bipush (-7), 2) := by decide +kernel
theorem dX3_worth_76 : decode cX3_worth 76 = .ok (.if_icmp .le 40, 3) := by decide +kernel
theorem dX3_worth_79 : decode cX3_worth 79 = .ok (.iload_n 3, 1) := by decide +kernel
theorem dX3_worth_80 : decode cX3_worth 80 = .ok (.bipush 32, 2) := by decide +kernel
theorem dX3_worth_82 : decode cX3_worth 82 = .ok (.if_icmp .ge 34, 3) := by decide +kernel
theorem dX3_worth_85 : decode cX3_worth 85 = .ok (.aload_n 0, 1) := by decide +kernel
theorem dX3_worth_86 : decode cX3_worth 86 = .ok (.getfield 22, 3) := by decide +kernel
theorem dX3_worth_89 : decode cX3_worth 89 = .ok (.iload_n 3, 1) := by decide +kernel
theorem dX3_worth_90 : decode cX3_worth 90 = .ok (.iload 6, 2) := by decide +kernel
theorem dX3_worth_92 : decode cX3_worth 92 = .ok (.ifCond .lt 8, 3) := by decide +kernel
theorem dX3_worth_95 : decode cX3_worth 95 = .ok (.iload 6, 2) := by decide +kernel
theorem dX3_worth_97 : decode cX3_worth 97 = .ok (.goto 12, 3) := by decide +kernel
theorem dX3_worth_100 : decode cX3_worth 100 = .ok (.aload_n 0, 1) := by decide +kernel
theorem dX3_worth_101 : decode cX3_worth 101 = .ok (.getfield 25, 3) := by decide +kernel
theorem dX3_worth_104 : decode cX3_worth 104 = .ok (.iconst (-1), 1) := by decide +kernel
theorem dX3_worth_105 : decode cX3_worth 105 = .ok (.iload 6, 2) := by decide +kernel
theorem dX3_worth_107 : decode cX3_worth 107 = .ok (.isub, 1) := by decide +kernel
theorem dX3_worth_108 : decode cX3_worth 108 = .ok (.iaload, 1) := by decide +kernel
theorem dX3_worth_109 : decode cX3_worth 109 = .ok (.iastore, 1) := by decide +kernel
theorem dX3_worth_110 : decode cX3_worth 110 = .ok (.iinc 3 1, 3) := by decide +kernel
theorem dX3_worth_113 : decode cX3_worth 113 = .ok (.goto 132, 3) := by decide +kernel
theorem dX3_worth_116 : decode cX3_worth 116 = .ok (.iload 6, 2) := by decide +kernel
theorem dX3_worth_118 : decode cX3_worth 118 = .ok (.bipush (-22), 2) := by decide +kernel
theorem dX3_worth_120 : decode cX3_worth 120 = .ok (.if_icmp .ne 17, 3) := by decide +kernel
theorem dX3_worth_123 : decode cX3_worth 123 = .ok (.iload_n 3, 1) := by decide +kernel
theorem dX3_worth_124 : decode cX3_worth 124 = .ok (.iconst 1, 1) := by decide +kernel
theorem dX3_worth_125 : decode cX3_worth 125 = .ok (.if_icmp .lt 12, 3) := by decide +kernel
theorem dX3_worth_128 : decode cX3_worth 128 = .ok (.aload_n 0, 1) := by decide +kernel
theorem dX3_worth_129 : decode cX3_worth 129 = .ok (.getfield 22, 3) := by decide +kernel
theorem dX3_worth_132 : decode cX3_worth 132 = .ok (.iload_n 3, 1) := by decide +kernel
theorem dX3_worth_133 : decode cX3_worth 133 = .ok (.iconst 1, 1) := by decide +kernel
theorem dX3_worth_134 : decode cX3_worth 134 = .ok (.isub, 1) := by decide +kernel
theorem dX3_worth_135 : decode cX3_worth 135 = .ok (.iaload, 1) := by decide +kernel
theorem dX3_worth_136 : decode cX3_worth 136 = .ok (.ireturn, 1) := by decide +kernel
theorem dX3_worth_137 : decode cX3_worth 137 = .ok (.iload 6, 2) := by decide +kernel
theorem dX3_worth_139 : decode cX3_worth 139 = .ok (.bipush (-21), 2) := by decide +kernel
theorem dX3_worth_141 : decode cX3_worth 141 = .ok (.if_icmp .ne 30, 3) := by decide +kernel
theorem dX3_worth_144 : decode cX3_worth 144 = .ok (.iload_n 3, 1) := by decide +kernel
theorem dX3_worth_145 : decode cX3_worth 145 = .ok (.iconst 1, 1) := by decide +kernel
theorem dX3_worth_146 : decode cX3_worth 146 = .ok (.if_icmp .lt 25, 3) := by decide +kernel
theorem dX3_worth_149 : decode cX3_worth 149 = .ok (.iinc 3 (-1), 3) := by decide +kernel
theorem dX3_worth_152 : decode cX3_worth 152 = .ok (.aload_n 0, 1) := by decide +kernel
theorem dX3_worth_153 : decode cX3_worth 153 = .ok (.getfield 22, 3) := by decide +kernel
theorem dX3_worth_156 : decode cX3_worth 156 = .ok (.iload_n 3, 1) := by decide +kernel
theorem dX3_worth_157 : decode cX3_worth 157 = .ok (.iaload, 1) := by decide +kernel
theorem dX3_worth_158 : decode cX3_worth 158 = .ok (.ifCond .ne 7, 3) := by decide +kernel
theorem dX3_worth_161 : decode cX3_worth 161 = .ok (.iconst 1, 1) := by decide +kernel
theorem dX3_worth_162 : decode cX3_worth 162 = .ok (.goto 4, 3) := by decide +kernel
theorem dX3_worth_165 : decode cX3_worth 165 = .ok (.iconst 0, 1) := by decide +kernel
theorem dX3_worth_166 : decode cX3_worth 166 = .ok (.istore 4, 2) := by decide +kernel
theorem dX3_worth_168 : decode cX3_worth 168 = .ok (.goto 77, 3) := by decide +kernel
theorem dX3_worth_171 : decode cX3_worth 171 = .ok (.iload 6, 2) := by decide +kernel
theorem dX3_worth_173 : decode cX3_worth 173 = .ok (.bipush (-20), 2) := by decide +kernel
theorem dX3_worth_175 : decode cX3_worth 175 = .ok (.if_icmp .ne 35, 3) := by decide +kernel
theorem dX3_worth_178 : decode cX3_worth 178 = .ok (.iload_n 3, 1) := by decide +kernel
theorem dX3_worth_179 : decode cX3_worth 179 = .ok (.iconst 1, 1) := by decide +kernel
theorem dX3_worth_180 : decode cX3_worth 180 = .ok (.if_icmp .lt 30, 3) := by decide +kernel
theorem dX3_worth_183 : decode cX3_worth 183 = .ok (.aload_n 0, 1) := by decide +kernel
theorem dX3_worth_184 : decode cX3_worth 184 = .ok (.getfield 22, 3) := by decide +kernel
theorem dX3_worth_187 : decode cX3_worth 187 = .ok (.iload_n 3, 1) := by decide +kernel
theorem dX3_worth_188 : decode cX3_worth 188 = .ok (.iconst 1, 1) := by decide +kernel
theorem dX3_worth_189 : decode cX3_worth 189 = .ok (.isub, 1) := by decide +kernel
theorem dX3_worth_190 : decode cX3_worth 190 = .ok (.aload_n 0, 1) := by decide +kernel
theorem dX3_worth_191 : decode cX3_worth 191 = .ok (.getfield 22, 3) := by decide +kernel
theorem dX3_worth_194 : decode cX3_worth 194 = .ok (.iload_n 3, 1) := by decide +kernel
theorem dX3_worth_195 : decode cX3_worth 195 = .ok (.iconst 1, 1) := by decide +kernel
theorem dX3_worth_196 : decode cX3_worth 196 = .ok (.isub, 1) := by decide +kernel
theorem dX3_worth_197 : decode cX3_worth 197 = .ok (.iaload, 1) := by decide +kernel
theorem dX3_worth_198 : decode cX3_worth 198 = .ok (.ifCond .ne 7, 3) := by decide +kernel
theorem dX3_worth_201 : decode cX3_worth 201 = .ok (.iconst 1, 1) := by decide +kernel
theorem dX3_worth_202 : decode cX3_worth 202 = .ok (.goto 4, 3) := by decide +kernel
theorem dX3_worth_205 : decode cX3_worth 205 = .ok (.iconst 0, 1) := by decide +kernel
theorem dX3_worth_206 : decode cX3_worth 206 = .ok (.iastore, 1) := by decide +kernel
theorem dX3_worth_207 : decode cX3_worth 207 = .ok (.goto 38, 3) := by decide +kernel
theorem dX3_worth_210 : decode cX3_worth 210 = .ok (.iload_n 3, 1) := by decide +kernel
theorem dX3_worth_211 : decode cX3_worth 211 = .ok (.iconst 2, 1) := by decide +kernel
theorem dX3_worth_212 : decode cX3_worth 212 = .ok (.if_icmp .lt 33, 3) := by decide +kernel
theorem dX3_worth_215 : decode cX3_worth 215 = .ok (.iinc 3 (-1), 3) := by decide +kernel
theorem dX3_worth_218 : decode cX3_worth 218 = .ok (.aload_n 0, 1) := by decide +kernel
theorem dX3_worth_219 : decode cX3_worth 219 = .ok (.getfield 22, 3) := by decide +kernel
theorem dX3_worth_222 : decode cX3_worth 222 = .ok (.iload_n 3, 1) := by decide +kernel
theorem dX3_worth_223 : decode cX3_worth 223 = .ok (.iconst 1, 1) := by decide +kernel
theorem dX3_worth_224 : decode cX3_worth 224 = .ok (.isub, 1) := by decide +kernel
theorem dX3_worth_225 : decode cX3_worth 225 = .ok (.iload 6, 2) := by decide +kernel
theorem dX3_worth_227 : decode cX3_worth 227 = .ok (.aload_n 0, 1) := by decide +kernel
theorem dX3_worth_228 : decode cX3_worth 228 = .ok (.getfield 22, 3) := by decide +kernel
theorem dX3_worth_231 : decode cX3_worth 231 = .ok (.iload_n 3, 1) := by decide +kernel
theorem dX3_worth_232 : decode cX3_worth 232 = .ok (.iconst 1, 1) := by decide +kernel
theorem dX3_worth_233 : decode cX3_worth 233 = .ok (.isub, 1) := by decide +kernel
theorem dX3_worth_234 : decode cX3_worth 234 = .ok (.iaload, 1) := by decide +kernel
theorem dX3_worth_235 : decode cX3_worth 235 = .ok (.aload_n 0, 1) := by decide +kernel
theorem dX3_worth_236 : decode cX3_worth 236 = .ok (.getfield 22, 3) := by decide +kernel
theorem dX3_worth_239 : decode cX3_worth 239 = .ok (.iload_n 3, 1) := by decide +kernel
theorem dX3_worth_240 : decode cX3_worth 240 = .ok (.iaload, 1) := by decide +kernel
theorem dX3_worth_241 : decode cX3_worth 241 = .ok (.invokestatic 55, 3) := by decide +kernel
theorem dX3_worth_244 : decode cX3_worth 244 = .ok (.iastore, 1) := by decide +kernel
theorem dX3_worth_245 : decode cX3_worth 245 = .ok (.iinc 5 1, 3) := by decide +kernel
theorem dX3_worth_248 : decode cX3_worth 248 = .ok (.goto (-223), 3) := by decide +kernel
theorem dX3_worth_251 : decode cX3_worth 251 = .ok (.iconst 0, 1) := by decide +kernel
theorem dX3_worth_252 : decode cX3_worth 252 = .ok (.ireturn, 1) := by decide +kernel
theorem dX3_joined_0 : decode cX3_joined 0 = .ok (.lconst 0, 1) := by decide +kernel
theorem dX3_joined_1 : decode cX3_joined 1 = .ok (.lstore_n 3, 1) := by decide +kernel
theorem dX3_joined_2 : decode cX3_joined 2 = .ok (.iload_n 0, 1) := by decide +kernel
theorem dX3_joined_3 : decode cX3_joined 3 = .ok (.tableswitch 166 (-19) (-11) #[149, 132, 118, 104, 90, 74, 65, 57, 49], 49) := by decide +kernel
theorem dX3_joined_52 : decode cX3_joined 52 = .ok (.iload_n 1, 1) := by decide +kernel
theorem dX3_joined_53 : decode cX3_joined 53 = .ok (.iload_n 2, 1) := by decide +kernel
theorem dX3_joined_54 : decode cX3_joined 54 = .ok (.iadd, 1) := by decide +kernel
theorem dX3_joined_55 : decode cX3_joined 55 = .ok (.i2l, 1) := by decide +kernel
theorem dX3_joined_56 : decode cX3_joined 56 = .ok (.lstore_n 3, 1) := by decide +kernel
theorem dX3_joined_57 : decode cX3_joined 57 = .ok (.goto 112, 3) := by decide +kernel
theorem dX3_joined_60 : decode cX3_joined 60 = .ok (.iload_n 1, 1) := by decide +kernel
theorem dX3_joined_61 : decode cX3_joined 61 = .ok (.iload_n 2, 1) := by decide +kernel
theorem dX3_joined_62 : decode cX3_joined 62 = .ok (.isub, 1) := by decide +kernel
theorem dX3_joined_63 : decode cX3_joined 63 = .ok (.i2l, 1) := by decide +kernel
theorem dX3_joined_64 : decode cX3_joined 64 = .ok (.lstore_n 3, 1) := by decide +kernel
theorem dX3_joined_65 : decode cX3_joined 65 = .ok (.goto 104, 3) := by decide +kernel
theorem dX3_joined_68 : decode cX3_joined 68 = .ok (.iload_n 1, 1) := by decide +kernel
theorem dX3_joined_69 : decode cX3_joined 69 = .ok (.i2l, 1) := by decide +kernel
theorem dX3_joined_70 : decode cX3_joined 70 = .ok (.iload_n 2, 1) := by decide +kernel
theorem dX3_joined_71 : decode cX3_joined 71 = .ok (.i2l, 1) := by decide +kernel
theorem dX3_joined_72 : decode cX3_joined 72 = .ok (.lmul, 1) := by decide +kernel
theorem dX3_joined_73 : decode cX3_joined 73 = .ok (.lstore_n 3, 1) := by decide +kernel
theorem dX3_joined_74 : decode cX3_joined 74 = .ok (.goto 95, 3) := by decide +kernel
theorem dX3_joined_77 : decode cX3_joined 77 = .ok (.iload_n 2, 1) := by decide +kernel
theorem dX3_joined_78 : decode cX3_joined 78 = .ok (.ifCond .ne 7, 3) := by decide +kernel
theorem dX3_joined_81 : decode cX3_joined 81 = .ok (.lconst 0, 1) := by decide +kernel
theorem dX3_joined_82 : decode cX3_joined 82 = .ok (.goto 7, 3) := by decide +kernel
theorem dX3_joined_85 : decode cX3_joined 85 = .ok (.iload_n 1, 1) := by decide +kernel
theorem dX3_joined_86 : decode cX3_joined 86 = .ok (.iload_n 2, 1) := by decide +kernel
theorem dX3_joined_87 : decode cX3_joined 87 = .ok (.idiv, 1) := by decide +kernel
theorem dX3_joined_88 : decode cX3_joined 88 = .ok (.i2l, 1) := by decide +kernel
theorem dX3_joined_89 : decode cX3_joined 89 = .ok (.lstore_n 3, 1) := by decide +kernel
theorem dX3_joined_90 : decode cX3_joined 90 = .ok (.goto 79, 3) := by decide +kernel
theorem dX3_joined_93 : decode cX3_joined 93 = .ok (.iload_n 1, 1) := by decide +kernel
theorem dX3_joined_94 : decode cX3_joined 94 = .ok (.iload_n 2, 1) := by decide +kernel
theorem dX3_joined_95 : decode cX3_joined 95 = .ok (.if_icmp .ne 7, 3) := by decide +kernel
theorem dX3_joined_98 : decode cX3_joined 98 = .ok (.lconst 1, 1) := by decide +kernel
theorem dX3_joined_99 : decode cX3_joined 99 = .ok (.goto 4, 3) := by decide +kernel
theorem dX3_joined_102 : decode cX3_joined 102 = .ok (.lconst 0, 1) := by decide +kernel
theorem dX3_joined_103 : decode cX3_joined 103 = .ok (.lstore_n 3, 1) := by decide +kernel
theorem dX3_joined_104 : decode cX3_joined 104 = .ok (.goto 65, 3) := by decide +kernel
theorem dX3_joined_107 : decode cX3_joined 107 = .ok (.iload_n 1, 1) := by decide +kernel
theorem dX3_joined_108 : decode cX3_joined 108 = .ok (.iload_n 2, 1) := by decide +kernel
theorem dX3_joined_109 : decode cX3_joined 109 = .ok (.if_icmp .ge 7, 3) := by decide +kernel
theorem dX3_joined_112 : decode cX3_joined 112 = .ok (.lconst 1, 1) := by decide +kernel
theorem dX3_joined_113 : decode cX3_joined 113 = .ok (.goto 4, 3) := by decide +kernel
theorem dX3_joined_116 : decode cX3_joined 116 = .ok (.lconst 0, 1) := by decide +kernel
theorem dX3_joined_117 : decode cX3_joined 117 = .ok (.lstore_n 3, 1) := by decide +kernel
theorem dX3_joined_118 : decode cX3_joined 118 = .ok (.goto 51, 3) := by decide +kernel
theorem dX3_joined_121 : decode cX3_joined 121 = .ok (.iload_n 1, 1) := by decide +kernel
theorem dX3_joined_122 : decode cX3_joined 122 = .ok (.iload_n 2, 1) := by decide +kernel
theorem dX3_joined_123 : decode cX3_joined 123 = .ok (.if_icmp .le 7, 3) := by decide +kernel
theorem dX3_joined_126 : decode cX3_joined 126 = .ok (.lconst 1, 1) := by decide +kernel
theorem dX3_joined_127 : decode cX3_joined 127 = .ok (.goto 4, 3) := by decide +kernel
theorem dX3_joined_130 : decode cX3_joined 130 = .ok (.lconst 0, 1) := by decide +kernel
theorem dX3_joined_131 : decode cX3_joined 131 = .ok (.lstore_n 3, 1) := by decide +kernel
theorem dX3_joined_132 : decode cX3_joined 132 = .ok (.goto 37, 3) := by decide +kernel
theorem dX3_joined_135 : decode cX3_joined 135 = .ok (.iload_n 1, 1) := by decide +kernel
theorem dX3_joined_136 : decode cX3_joined 136 = .ok (.ifCond .eq 11, 3) := by decide +kernel
theorem dX3_joined_139 : decode cX3_joined 139 = .ok (.iload_n 2, 1) := by decide +kernel
theorem dX3_joined_140 : decode cX3_joined 140 = .ok (.ifCond .eq 7, 3) := by decide +kernel
theorem dX3_joined_143 : decode cX3_joined 143 = .ok (.lconst 1, 1) := by decide +kernel
theorem dX3_joined_144 : decode cX3_joined 144 = .ok (.goto 4, 3) := by decide +kernel
theorem dX3_joined_147 : decode cX3_joined 147 = .ok (.lconst 0, 1) := by decide +kernel
theorem dX3_joined_148 : decode cX3_joined 148 = .ok (.lstore_n 3, 1) := by decide +kernel
theorem dX3_joined_149 : decode cX3_joined 149 = .ok (.goto 20, 3) := by decide +kernel
theorem dX3_joined_152 : decode cX3_joined 152 = .ok (.iload_n 1, 1) := by decide +kernel
theorem dX3_joined_153 : decode cX3_joined 153 = .ok (.ifCond .ne 7, 3) := by decide +kernel
theorem dX3_joined_156 : decode cX3_joined 156 = .ok (.iload_n 2, 1) := by decide +kernel
theorem dX3_joined_157 : decode cX3_joined 157 = .ok (.ifCond .eq 7, 3) := by decide +kernel
theorem dX3_joined_160 : decode cX3_joined 160 = .ok (.lconst 1, 1) := by decide +kernel
theorem dX3_joined_161 : decode cX3_joined 161 = .ok (.goto 4, 3) := by decide +kernel
theorem dX3_joined_164 : decode cX3_joined 164 = .ok (.lconst 0, 1) := by decide +kernel
theorem dX3_joined_165 : decode cX3_joined 165 = .ok (.lstore_n 3, 1) := by decide +kernel
theorem dX3_joined_166 : decode cX3_joined 166 = .ok (.goto 3, 3) := by decide +kernel
theorem dX3_joined_169 : decode cX3_joined 169 = .ok (.lload_n 3, 1) := by decide +kernel
theorem dX3_joined_170 : decode cX3_joined 170 = .ok (.ldc2_w 59, 3) := by decide +kernel
theorem dX3_joined_173 : decode cX3_joined 173 = .ok (.lcmp, 1) := by decide +kernel
theorem dX3_joined_174 : decode cX3_joined 174 = .ok (.ifCond .le 8, 3) := by decide +kernel
theorem dX3_joined_177 : decode cX3_joined 177 = .ok (.ldc 61, 2) := by decide +kernel
theorem dX3_joined_179 : decode cX3_joined 179 = .ok (.goto 18, 3) := by decide +kernel
theorem dX3_joined_182 : decode cX3_joined 182 = .ok (.lload_n 3, 1) := by decide +kernel
theorem dX3_joined_183 : decode cX3_joined 183 = .ok (.ldc2_w 62, 3) := by decide +kernel
theorem dX3_joined_186 : decode cX3_joined 186 = .ok (.lcmp, 1) := by decide +kernel
theorem dX3_joined_187 : decode cX3_joined 187 = .ok (.ifCond .ge 8, 3) := by decide +kernel
theorem dX3_joined_190 : decode cX3_joined 190 = .ok (.ldc 64, 2) := by decide +kernel
theorem dX3_joined_192 : decode cX3_joined 192 = .ok (.goto 5, 3) := by decide +kernel
theorem dX3_joined_195 : decode cX3_joined 195 = .ok (.lload_n 3, 1) := by decide +kernel
theorem dX3_joined_196 : decode cX3_joined 196 = .ok (.l2i, 1) := by decide +kernel
theorem dX3_joined_197 : decode cX3_joined 197 = .ok (.ireturn, 1) := by decide +kernel
theorem dX4_init_0 : decode cX4_init 0 = .ok (.aload_n 0, 1) := by decide +kernel
theorem dX4_init_1 : decode cX4_init 1 = .ok (.invokespecial 5, 3) := by decide +kernel
theorem dX4_init_4 : decode cX4_init 4 = .ok (.aload_n 0, 1) := by decide +kernel
theorem dX4_init_5 : decode cX4_init 5 = .ok (.bipush 10, 2) := by decide +kernel
theorem dX4_init_7 : decode cX4_init 7 = .ok (.newarray .int, 2) := by decide +kernel
theorem dX4_init_9 : decode cX4_init 9 = .ok (.putfield 11, 3) := by decide +kernel
theorem dX4_init_12 : decode cX4_init 12 = .ok (.aload_n 0, 1) := by decide +kernel
theorem dX4_init_13 : decode cX4_init 13 = .ok (.bipush 10, 2) := by decide +kernel
theorem dX4_init_15 : decode cX4_init 15 = .ok (.newarray .int, 2) := by decide +kernel
theorem dX4_init_17 : decode cX4_init 17 = .ok (.putfield 15, 3) := by decide +kernel
theorem dX4_init_20 : decode cX4_init 20 = .ok (.aload_n 0, 1) := by decide +kernel
theorem dX4_init_21 : decode cX4_init 21 = .ok (.iconst 3, 1) := by decide +kernel
theorem dX4_init_22 : decode cX4_init 22 = .ok (.newarray .int, 2) := by decide +kernel
theorem dX4_init_24 : decode cX4_init 24 = .ok (.putfield 18, 3) := by decide +kernel
theorem dX4_init_27 : decode cX4_init 27 = .ok (.aload_n 0, 1) := by decide +kernel
theorem dX4_init_28 : decode cX4_init 28 = .ok (.bipush 84, 2) := by decide +kernel
theorem dX4_init_30 : decode cX4_init 30 = .ok (.newarray .int, 2) := by decide +kernel
theorem dX4_init_32 : decode cX4_init 32 = .ok (.putfield 21, 3) := by decide +kernel
theorem dX4_init_35 : decode cX4_init 35 = .ok (.aload_n 0, 1) := by decide +kernel
theorem dX4_init_36 : decode cX4_init 36 = .ok (.iconst 0, 1) := by decide +kernel
theorem dX4_init_37 : decode cX4_init 37 = .ok (.putfield 24, 3) := by decide +kernel
theorem dX4_init_40 : decode cX4_init 40 = .ok (.aload_n 0, 1) := by decide +kernel
theorem dX4_init_41 : decode cX4_init 41 = .ok (.iconst 0, 1) := by decide +kernel
theorem dX4_init_42 : decode cX4_init 42 = .ok (.putfield 28, 3) := by decide +kernel
theorem dX4_init_45 : decode cX4_init 45 = .ok (.return_, 1) := by decide +kernel
theorem dX4_isSize_0 : decode cX4_isSize 0 = .ok (.iload_n 0, 1) := by decide +kernel
theorem dX4_isSize_1 : decode cX4_isSize 1 = .ok (.iconst 1, 1) := by decide +kernel
theorem dX4_isSize_2 : decode cX4_isSize 2 = .ok (.if_icmp .lt 12, 3) := by decide +kernel
theorem dX4_isSize_5 : decode cX4_isSize 5 = .ok (.iload_n 0, 1) := by decide +kernel
theorem dX4_isSize_6 : decode cX4_isSize 6 = .ok (.iconst 3, 1) := by decide +kernel
theorem dX4_isSize_7 : decode cX4_isSize 7 = .ok (.if_icmp .gt 7, 3) := by decide +kernel
theorem dX4_isSize_10 : decode cX4_isSize 10 = .ok (.iconst 1, 1) := by decide +kernel
theorem dX4_isSize_11 : decode cX4_isSize 11 = .ok (.goto 4, 3) := by decide +kernel
theorem dX4_isSize_14 : decode cX4_isSize 14 = .ok (.iconst 0, 1) := by decide +kernel
theorem dX4_isSize_15 : decode cX4_isSize 15 = .ok (.ireturn, 1) := by decide +kernel
theorem dX4_add_0 : decode cX4_add 0 = .ok (.iload_n 1, 1) := by decide +kernel
theorem dX4_add_1 : decode cX4_add 1 = .ok (.ifCond .lt 27, 3) := by decide +kernel
theorem dX4_add_4 : decode cX4_add 4 = .ok (.iload_n 1, 1) := by decide +kernel
theorem dX4_add_5 : decode cX4_add 5 = .ok (.bipush 20, 2) := by decide +kernel
theorem dX4_add_7 : decode cX4_add 7 = .ok (.if_icmp .gt 21, 3) := by decide +kernel
theorem dX4_add_10 : decode cX4_add 10 = .ok (.iload_n 2, 1) := by decide +kernel
theorem dX4_add_11 : decode cX4_add 11 = .ok (.ifCond .lt 17, 3) := by decide +kernel
theorem dX4_add_14 : decode cX4_add 14 = .ok (.iload_n 2, 1) := by decide +kernel
theorem dX4_add_15 : decode cX4_add 15 = .ok (.iconst 3, 1) := by decide +kernel
theorem dX4_add_16 : decode cX4_add 16 = .ok (.if_icmp .gt 12, 3) := by decide +kernel
theorem dX4_add_19 : decode cX4_add 19 = .ok (.aload_n 0, 1) := by decide +kernel
theorem dX4_add_20 : decode cX4_add 20 = .ok (.getfield 28, 3) := by decide +kernel
theorem dX4_add_23 : decode cX4_add 23 = .ok (.bipush 10, 2) := by decide +kernel
theorem dX4_add_25 : decode cX4_add 25 = .ok (.if_icmp .lt 5, 3) := by decide +kernel
theorem dX4_add_28 : decode cX4_add 28 = .ok (.iconst 0, 1) := by decide +kernel
theorem dX4_add_29 : decode cX4_add 29 = .ok (.ireturn, 1) := by decide +kernel
theorem dX4_add_30 : decode cX4_add 30 = .ok (.aload_n 0, 1) := by decide +kernel
theorem dX4_add_31 : decode cX4_add 31 = .ok (.getfield 11, 3) := by decide +kernel
theorem dX4_add_34 : decode cX4_add 34 = .ok (.aload_n 0, 1) := by decide +kernel
theorem dX4_add_35 : decode cX4_add 35 = .ok (.getfield 28, 3) := by decide +kernel
theorem dX4_add_38 : decode cX4_add 38 = .ok (.iload_n 1, 1) := by decide +kernel
theorem dX4_add_39 : decode cX4_add 39 = .ok (.iastore, 1) := by decide +kernel
theorem dX4_add_40 : decode cX4_add 40 = .ok (.aload_n 0, 1) := by decide +kernel
theorem dX4_add_41 : decode cX4_add 41 = .ok (.getfield 15, 3) := by decide +kernel
theorem dX4_add_44 : decode cX4_add 44 = .ok (.aload_n 0, 1) := by decide +kernel
theorem dX4_add_45 : decode cX4_add 45 = .ok (.getfield 28, 3) := by decide +kernel
theorem dX4_add_48 : decode cX4_add 48 = .ok (.iload_n 2, 1) := by decide +kernel
theorem dX4_add_49 : decode cX4_add 49 = .ok (.iastore, 1) := by decide +kernel
theorem dX4_add_50 : decode cX4_add 50 = .ok (.aload_n 0, 1) := by decide +kernel
theorem dX4_add_51 : decode cX4_add 51 = .ok (.dup, 1) := by decide +kernel
theorem dX4_add_52 : decode cX4_add 52 = .ok (.getfield 28, 3) := by decide +kernel
theorem dX4_add_55 : decode cX4_add 55 = .ok (.iconst 1, 1) := by decide +kernel
theorem dX4_add_56 : decode cX4_add 56 = .ok (.iadd, 1) := by decide +kernel
theorem dX4_add_57 : decode cX4_add 57 = .ok (.putfield 28, 3) := by decide +kernel
theorem dX4_add_60 : decode cX4_add 60 = .ok (.iconst 1, 1) := by decide +kernel
theorem dX4_add_61 : decode cX4_add 61 = .ok (.ireturn, 1) := by decide +kernel
theorem dX4_beginRows_0 : decode cX4_beginRows 0 = .ok (.iconst 0, 1) := by decide +kernel
theorem dX4_beginRows_1 : decode cX4_beginRows 1 = .ok (.istore_n 1, 1) := by decide +kernel
theorem dX4_beginRows_2 : decode cX4_beginRows 2 = .ok (.iload_n 1, 1) := by decide +kernel
theorem dX4_beginRows_3 : decode cX4_beginRows 3 = .ok (.aload_n 0, 1) := by decide +kernel
theorem dX4_beginRows_4 : decode cX4_beginRows 4 = .ok (.getfield 18, 3) := by decide +kernel
theorem dX4_beginRows_7 : decode cX4_beginRows 7 = .ok (.arraylength, 1) := by decide +kernel
theorem dX4_beginRows_8 : decode cX4_beginRows 8 = .ok (.if_icmp .ge 16, 3) := by decide +kernel
theorem dX4_beginRows_11 : decode cX4_beginRows 11 = .ok (.aload_n 0, 1) := by decide +kernel
theorem dX4_beginRows_12 : decode cX4_beginRows 12 = .ok (.getfield 18, 3) := by decide +kernel
theorem dX4_beginRows_15 : decode cX4_beginRows 15 = .ok (.iload_n 1, 1) := by decide +kernel
theorem dX4_beginRows_16 : decode cX4_beginRows 16 = .ok (.iconst 0, 1) := by decide +kernel
theorem dX4_beginRows_17 : decode cX4_beginRows 17 = .ok (.iastore, 1) := by decide +kernel
theorem dX4_beginRows_18 : decode cX4_beginRows 18 = .ok (.iinc 1 1, 3) := by decide +kernel
theorem dX4_beginRows_21 : decode cX4_beginRows 21 = .ok (.goto (-19), 3) := by decide +kernel
theorem dX4_beginRows_24 : decode cX4_beginRows 24 = .ok (.return_, 1) := by decide +kernel
theorem dX4_nextRow_0 : decode cX4_nextRow 0 = .ok (.iload_n 1, 1) := by decide +kernel
theorem dX4_nextRow_1 : decode cX4_nextRow 1 = .ok (.iconst 3, 1) := by decide +kernel
theorem dX4_nextRow_2 : decode cX4_nextRow 2 = .ok (.invokestatic 31, 3) := by decide +kernel
theorem dX4_nextRow_5 : decode cX4_nextRow 5 = .ok (.iconst 1, 1) := by decide +kernel
theorem dX4_nextRow_6 : decode cX4_nextRow 6 = .ok (.isub, 1) := by decide +kernel
theorem dX4_nextRow_7 : decode cX4_nextRow 7 = .ok (.istore_n 2, 1) := by decide +kernel
theorem dX4_nextRow_8 : decode cX4_nextRow 8 = .ok (.iload_n 2, 1) := by decide +kernel
theorem dX4_nextRow_9 : decode cX4_nextRow 9 = .ok (.ifCond .lt 63, 3) := by decide +kernel
theorem dX4_nextRow_12 : decode cX4_nextRow 12 = .ok (.aload_n 0, 1) := by decide +kernel
theorem dX4_nextRow_13 : decode cX4_nextRow 13 = .ok (.getfield 18, 3) := by decide +kernel
theorem dX4_nextRow_16 : decode cX4_nextRow 16 = .ok (.iload_n 2, 1) := by decide +kernel
theorem dX4_nextRow_17 : decode cX4_nextRow 17 = .ok (.iaload, 1) := by decide +kernel
theorem dX4_nextRow_18 : decode cX4_nextRow 18 = .ok (.bipush 20, 2) := by decide +kernel
theorem dX4_nextRow_20 : decode cX4_nextRow 20 = .ok (.if_icmp .ge 46, 3) := by decide +kernel
theorem dX4_nextRow_23 : decode cX4_nextRow 23 = .ok (.aload_n 0, 1) := by decide +kernel
theorem dX4_nextRow_24 : decode cX4_nextRow 24 = .ok (.getfield 18, 3) := by decide +kernel
theorem dX4_nextRow_27 : decode cX4_nextRow 27 = .ok (.iload_n 2, 1) := by decide +kernel
theorem dX4_nextRow_28 : decode cX4_nextRow 28 = .ok (.dup2, 1) := by decide +kernel
theorem dX4_nextRow_29 : decode cX4_nextRow 29 = .ok (.iaload, 1) := by decide +kernel
theorem dX4_nextRow_30 : decode cX4_nextRow 30 = .ok (.iconst 1, 1) := by decide +kernel
theorem dX4_nextRow_31 : decode cX4_nextRow 31 = .ok (.iadd, 1) := by decide +kernel
theorem dX4_nextRow_32 : decode cX4_nextRow 32 = .ok (.iastore, 1) := by decide +kernel
theorem dX4_nextRow_33 : decode cX4_nextRow 33 = .ok (.iload_n 2, 1) := by decide +kernel
theorem dX4_nextRow_34 : decode cX4_nextRow 34 = .ok (.iconst 1, 1) := by decide +kernel
theorem dX4_nextRow_35 : decode cX4_nextRow 35 = .ok (.iadd, 1) := by decide +kernel
theorem dX4_nextRow_36 : decode cX4_nextRow 36 = .ok (.istore_n 3, 1) := by decide +kernel
theorem dX4_nextRow_37 : decode cX4_nextRow 37 = .ok (.iload_n 3, 1) := by decide +kernel
theorem dX4_nextRow_38 : decode cX4_nextRow 38 = .ok (.aload_n 0, 1) := by decide +kernel
theorem dX4_nextRow_39 : decode cX4_nextRow 39 = .ok (.getfield 18, 3) := by decide +kernel
theorem dX4_nextRow_42 : decode cX4_nextRow 42 = .ok (.arraylength, 1) := by decide +kernel
theorem dX4_nextRow_43 : decode cX4_nextRow 43 = .ok (.if_icmp .ge 21, 3) := by decide +kernel
theorem dX4_nextRow_46 : decode cX4_nextRow 46 = .ok (.aload_n 0, 1) := by decide +kernel
theorem dX4_nextRow_47 : decode cX4_nextRow 47 = .ok (.getfield 18, 3) := by decide +kernel
theorem dX4_nextRow_50 : decode cX4_nextRow 50 = .ok (.iload_n 3, 1) := by decide +kernel
theorem dX4_nextRow_51 : decode cX4_nextRow 51 = .ok (.aload_n 0, 1) := by decide +kernel
theorem dX4_nextRow_52 : decode cX4_nextRow 52 = .ok (.getfield 18, 3) := by decide +kernel
theorem dX4_nextRow_55 : decode cX4_nextRow 55 = .ok (.iload_n 2, 1) := by decide +kernel
theorem dX4_nextRow_56 : decode cX4_nextRow 56 = .ok (.iaload, 1) := by decide +kernel
theorem dX4_nextRow_57 : decode cX4_nextRow 57 = .ok (.iastore, 1) := by decide +kernel
theorem dX4_nextRow_58 : decode cX4_nextRow 58 = .ok (.iinc 3 1, 3) := by decide +kernel
theorem dX4_nextRow_61 : decode cX4_nextRow 61 = .ok (.goto (-24), 3) := by decide +kernel
theorem dX4_nextRow_64 : decode cX4_nextRow 64 = .ok (.iconst 1, 1) := by decide +kernel
theorem dX4_nextRow_65 : decode cX4_nextRow 65 = .ok (.ireturn, 1) := by decide +kernel
theorem dX4_nextRow_66 : decode cX4_nextRow 66 = .ok (.iinc 2 (-1), 3) := by decide +kernel
theorem dX4_nextRow_69 : decode cX4_nextRow 69 = .ok (.goto (-61), 3) := by decide +kernel
theorem dX4_nextRow_72 : decode cX4_nextRow 72 = .ok (.iconst 0, 1) := by decide +kernel
theorem dX4_nextRow_73 : decode cX4_nextRow 73 = .ok (.ireturn, 1) := by decide +kernel
theorem dX4_rowFits_0 : decode cX4_rowFits 0 = .ok (.iconst 0, 1) := by decide +kernel
theorem dX4_rowFits_1 : decode cX4_rowFits 1 = .ok (.istore_n 2, 1) := by decide +kernel
theorem dX4_rowFits_2 : decode cX4_rowFits 2 = .ok (.iload_n 2, 1) := by decide +kernel
theorem dX4_rowFits_3 : decode cX4_rowFits 3 = .ok (.aload_n 0, 1) := by decide +kernel
theorem dX4_rowFits_4 : decode cX4_rowFits 4 = .ok (.getfield 28, 3) := by decide +kernel
theorem dX4_rowFits_7 : decode cX4_rowFits 7 = .ok (.if_icmp .ge 37, 3) := by decide +kernel
theorem dX4_rowFits_10 : decode cX4_rowFits 10 = .ok (.iload_n 2, 1) := by decide +kernel
theorem dX4_rowFits_11 : decode cX4_rowFits 11 = .ok (.bipush 10, 2) := by decide +kernel
theorem dX4_rowFits_13 : decode cX4_rowFits 13 = .ok (.if_icmp .ge 31, 3) := by decide +kernel
theorem dX4_rowFits_16 : decode cX4_rowFits 16 = .ok (.aload_n 0, 1) := by decide +kernel
theorem dX4_rowFits_17 : decode cX4_rowFits 17 = .ok (.iload_n 1, 1) := by decide +kernel
theorem dX4_rowFits_18 : decode cX4_rowFits 18 = .ok (.aload_n 0, 1) := by decide +kernel
theorem dX4_rowFits_19 : decode cX4_rowFits 19 = .ok (.getfield 11, 3) := by decide +kernel
theorem dX4_rowFits_22 : decode cX4_rowFits 22 = .ok (.iload_n 2, 1) := by decide +kernel
theorem dX4_rowFits_23 : decode cX4_rowFits 23 = .ok (.iaload, 1) := by decide +kernel
theorem dX4_rowFits_24 : decode cX4_rowFits 24 = .ok (.invokevirtual 37, 3) := by decide +kernel
theorem dX4_rowFits_27 : decode cX4_rowFits 27 = .ok (.aload_n 0, 1) := by decide +kernel
theorem dX4_rowFits_28 : decode cX4_rowFits 28 = .ok (.getfield 15, 3) := by decide +kernel
theorem dX4_rowFits_31 : decode cX4_rowFits 31 = .ok (.iload_n 2, 1) := by decide +kernel
theorem dX4_rowFits_32 : decode cX4_rowFits 32 = .ok (.iaload, 1) := by decide +kernel
theorem dX4_rowFits_33 : decode cX4_rowFits 33 = .ok (.if_icmp .eq 5, 3) := by decide +kernel
theorem dX4_rowFits_36 : decode cX4_rowFits 36 = .ok (.iconst 0, 1) := by decide +kernel
theorem dX4_rowFits_37 : decode cX4_rowFits 37 = .ok (.ireturn, 1) := by decide +kernel
theorem dX4_rowFits_38 : decode cX4_rowFits 38 = .ok (.iinc 2 1, 3) := by decide +kernel
theorem dX4_rowFits_41 : decode cX4_rowFits 41 = .ok (.goto (-39), 3) := by decide +kernel
theorem dX4_rowFits_44 : decode cX4_rowFits 44 = .ok (.iconst 1, 1) := by decide +kernel
theorem dX4_rowFits_45 : decode cX4_rowFits 45 = .ok (.ireturn, 1) := by decide +kernel
theorem dX4_howMany_0 : decode cX4_howMany 0 = .ok (.iconst 0, 1) := by decide +kernel
theorem dX4_howMany_1 : decode cX4_howMany 1 = .ok (.istore_n 3, 1) := by decide +kernel
theorem dX4_howMany_2 : decode cX4_howMany 2 = .ok (.iconst 0, 1) := by decide +kernel
theorem dX4_howMany_3 : decode cX4_howMany 3 = .ok (.istore 4, 2) := by decide +kernel
theorem dX4_howMany_5 : decode cX4_howMany 5 = .ok (.iload 4, 2) := by decide +kernel
theorem dX4_howMany_7 : decode cX4_howMany 7 = .ok (.iload_n 1, 1) := by decide +kernel
theorem dX4_howMany_8 : decode cX4_howMany 8 = .ok (.if_icmp .ge 34, 3) := by decide +kernel
theorem dX4_howMany_11 : decode cX4_howMany 11 = .ok (.iload 4, 2) := by decide +kernel
theorem dX4_howMany_13 : decode cX4_howMany 13 = .ok (.iconst 3, 1) := by decide +kernel
theorem dX4_howMany_14 : decode cX4_howMany 14 = .ok (.if_icmp .ge 28, 3) := by decide +kernel
theorem dX4_howMany_17 : decode cX4_howMany 17 = .ok (.iload_n 3, 1) := by decide +kernel
theorem dX4_howMany_18 : decode cX4_howMany 18 = .ok (.aload_n 0, 1) := by decide +kernel
theorem dX4_howMany_19 : decode cX4_howMany 19 = .ok (.getfield 18, 3) := by decide +kernel
theorem dX4_howMany_22 : decode cX4_howMany 22 = .ok (.iload 4, 2) := by decide +kernel
theorem dX4_howMany_24 : decode cX4_howMany 24 = .ok (.iaload, 1) := by decide +kernel
theorem dX4_howMany_25 : decode cX4_howMany 25 = .ok (.iload_n 2, 1) := by decide +kernel
theorem dX4_howMany_26 : decode cX4_howMany 26 = .ok (.if_icmp .gt 7, 3) := by decide +kernel
theorem dX4_howMany_29 : decode cX4_howMany 29 = .ok (.iconst 1, 1) := by decide +kernel
theorem dX4_howMany_30 : decode cX4_howMany 30 = .ok (.goto 4, 3) := by decide +kernel
theorem dX4_howMany_33 : decode cX4_howMany 33 = .ok (.iconst 0, 1) := by decide +kernel
theorem dX4_howMany_34 : decode cX4_howMany 34 = .ok (.iadd, 1) := by decide +kernel
theorem dX4_howMany_35 : decode cX4_howMany 35 = .ok (.istore_n 3, 1) := by decide +kernel
theorem dX4_howMany_36 : decode cX4_howMany 36 = .ok (.iinc 4 1, 3) := by decide +kernel
theorem dX4_howMany_39 : decode cX4_howMany 39 = .ok (.goto (-34), 3) := by decide +kernel
theorem dX4_howMany_42 : decode cX4_howMany 42 = .ok (.iload_n 3, 1) := by decide +kernel
theorem dX4_howMany_43 : decode cX4_howMany 43 = .ok (.ireturn, 1) := by decide +kernel
theorem dX4_rowNumber_0 : decode cX4_rowNumber 0 = .ok (.iconst 0, 1) := by decide +kernel
theorem dX4_rowNumber_1 : decode cX4_rowNumber 1 = .ok (.istore_n 2, 1) := by decide +kernel
theorem dX4_rowNumber_2 : decode cX4_rowNumber 2 = .ok (.iconst 0, 1) := by decide +kernel
theorem dX4_rowNumber_3 : decode cX4_rowNumber 3 = .ok (.istore_n 3, 1) := by decide +kernel
theorem dX4_rowNumber_4 : decode cX4_rowNumber 4 = .ok (.iload_n 3, 1) := by decide +kernel
theorem dX4_rowNumber_5 : decode cX4_rowNumber 5 = .ok (.iload_n 1, 1) := by decide +kernel
theorem dX4_rowNumber_6 : decode cX4_rowNumber 6 = .ok (.if_icmp .ge 26, 3) := by decide +kernel
theorem dX4_rowNumber_9 : decode cX4_rowNumber 9 = .ok (.iload_n 3, 1) := by decide +kernel
theorem dX4_rowNumber_10 : decode cX4_rowNumber 10 = .ok (.iconst 3, 1) := by decide +kernel
theorem dX4_rowNumber_11 : decode cX4_rowNumber 11 = .ok (.if_icmp .ge 21, 3) := by decide +kernel
theorem dX4_rowNumber_14 : decode cX4_rowNumber 14 = .ok (.iload_n 2, 1) := by decide +kernel
theorem dX4_rowNumber_15 : decode cX4_rowNumber 15 = .ok (.bipush 21, 2) := by decide +kernel
theorem dX4_rowNumber_17 : decode cX4_rowNumber 17 = .ok (.imul, 1) := by decide +kernel
theorem dX4_rowNumber_18 : decode cX4_rowNumber 18 = .ok (.aload_n 0, 1) := by decide +kernel
theorem dX4_rowNumber_19 : decode cX4_rowNumber 19 = .ok (.getfield 18, 3) := by decide +kernel
theorem dX4_rowNumber_22 : decode cX4_rowNumber 22 = .ok (.iload_n 3, 1) := by decide +kernel
theorem dX4_rowNumber_23 : decode cX4_rowNumber 23 = .ok (.iaload, 1) := by decide +kernel
theorem dX4_rowNumber_24 : decode cX4_rowNumber 24 = .ok (.iadd, 1) := by decide +kernel
theorem dX4_rowNumber_25 : decode cX4_rowNumber 25 = .ok (.istore_n 2, 1) := by decide +kernel
theorem dX4_rowNumber_26 : decode cX4_rowNumber 26 = .ok (.iinc 3 1, 3) := by decide +kernel
theorem dX4_rowNumber_29 : decode cX4_rowNumber 29 = .ok (.goto (-25), 3) := by decide +kernel
theorem dX4_rowNumber_32 : decode cX4_rowNumber 32 = .ok (.iload_n 2, 1) := by decide +kernel
theorem dX4_rowNumber_33 : decode cX4_rowNumber 33 = .ok (.ireturn, 1) := by decide +kernel
theorem dX4_rowBits_0 : decode cX4_rowBits 0 = .ok (.iconst 0, 1) := by decide +kernel
theorem dX4_rowBits_1 : decode cX4_rowBits 1 = .ok (.istore_n 2, 1) := by decide +kernel
theorem dX4_rowBits_2 : decode cX4_rowBits 2 = .ok (.iconst 0, 1) := by decide +kernel
theorem dX4_rowBits_3 : decode cX4_rowBits 3 = .ok (.istore_n 3, 1) := by decide +kernel
theorem dX4_rowBits_4 : decode cX4_rowBits 4 = .ok (.iload_n 3, 1) := by decide +kernel
theorem dX4_rowBits_5 : decode cX4_rowBits 5 = .ok (.iload_n 1, 1) := by decide +kernel
theorem dX4_rowBits_6 : decode cX4_rowBits 6 = .ok (.if_icmp .ge 25, 3) := by decide +kernel
theorem dX4_rowBits_9 : decode cX4_rowBits 9 = .ok (.iload_n 3, 1) := by decide +kernel
theorem dX4_rowBits_10 : decode cX4_rowBits 10 = .ok (.iconst 3, 1) := by decide +kernel
theorem dX4_rowBits_11 : decode cX4_rowBits 11 = .ok (.if_icmp .ge 20, 3) := by decide +kernel
theorem dX4_rowBits_14 : decode cX4_rowBits 14 = .ok (.iload_n 2, 1) := by decide +kernel
theorem dX4_rowBits_15 : decode cX4_rowBits 15 = .ok (.iconst 1, 1) := by decide +kernel
theorem dX4_rowBits_16 : decode cX4_rowBits 16 = .ok (.aload_n 0, 1) := by decide +kernel
theorem dX4_rowBits_17 : decode cX4_rowBits 17 = .ok (.getfield 18, 3) := by decide +kernel
theorem dX4_rowBits_20 : decode cX4_rowBits 20 = .ok (.iload_n 3, 1) := by decide +kernel
theorem dX4_rowBits_21 : decode cX4_rowBits 21 = .ok (.iaload, 1) := by decide +kernel
theorem dX4_rowBits_22 : decode cX4_rowBits 22 = .ok (.ishl, 1) := by decide +kernel
theorem dX4_rowBits_23 : decode cX4_rowBits 23 = .ok (.ior, 1) := by decide +kernel
theorem dX4_rowBits_24 : decode cX4_rowBits 24 = .ok (.istore_n 2, 1) := by decide +kernel
theorem dX4_rowBits_25 : decode cX4_rowBits 25 = .ok (.iinc 3 1, 3) := by decide +kernel
theorem dX4_rowBits_28 : decode cX4_rowBits 28 = .ok (.goto (-24), 3) := by decide +kernel
theorem dX4_rowBits_31 : decode cX4_rowBits 31 = .ok (.iload_n 2, 1) := by decide +kernel
theorem dX4_rowBits_32 : decode cX4_rowBits 32 = .ok (.ireturn, 1) := by decide +kernel
theorem dX4_tally_0 : decode cX4_tally 0 = .ok (.iconst 0, 1) := by decide +kernel
theorem dX4_tally_1 : decode cX4_tally 1 = .ok (.istore_n 2, 1) := by decide +kernel
theorem dX4_tally_2 : decode cX4_tally 2 = .ok (.iload_n 2, 1) := by decide +kernel
theorem dX4_tally_3 : decode cX4_tally 3 = .ok (.aload_n 0, 1) := by decide +kernel
theorem dX4_tally_4 : decode cX4_tally 4 = .ok (.getfield 21, 3) := by decide +kernel
theorem dX4_tally_7 : decode cX4_tally 7 = .ok (.arraylength, 1) := by decide +kernel
theorem dX4_tally_8 : decode cX4_tally 8 = .ok (.if_icmp .ge 16, 3) := by decide +kernel
theorem dX4_tally_11 : decode cX4_tally 11 = .ok (.aload_n 0, 1) := by decide +kernel
theorem dX4_tally_12 : decode cX4_tally 12 = .ok (.getfield 21, 3) := by decide +kernel
theorem dX4_tally_15 : decode cX4_tally 15 = .ok (.iload_n 2, 1) := by decide +kernel
theorem dX4_tally_16 : decode cX4_tally 16 = .ok (.iconst 0, 1) := by decide +kernel
theorem dX4_tally_17 : decode cX4_tally 17 = .ok (.iastore, 1) := by decide +kernel
theorem dX4_tally_18 : decode cX4_tally 18 = .ok (.iinc 2 1, 3) := by decide +kernel
theorem dX4_tally_21 : decode cX4_tally 21 = .ok (.goto (-19), 3) := by decide +kernel
theorem dX4_tally_24 : decode cX4_tally 24 = .ok (.aload_n 0, 1) := by decide +kernel
theorem dX4_tally_25 : decode cX4_tally 25 = .ok (.ldc 40, 2) := by decide +kernel
theorem dX4_tally_27 : decode cX4_tally 27 = .ok (.putfield 24, 3) := by decide +kernel
theorem dX4_tally_30 : decode cX4_tally 30 = .ok (.iconst 0, 1) := by decide +kernel
theorem dX4_tally_31 : decode cX4_tally 31 = .ok (.istore_n 2, 1) := by decide +kernel
theorem dX4_tally_32 : decode cX4_tally 32 = .ok (.aload_n 0, 1) := by decide +kernel
theorem dX4_tally_33 : decode cX4_tally 33 = .ok (.invokevirtual 41, 3) := by decide +kernel
theorem dX4_tally_36 : decode cX4_tally 36 = .ok (.iconst 0, 1) := by decide +kernel
theorem dX4_tally_37 : decode cX4_tally 37 = .ok (.istore_n 3, 1) := by decide +kernel
theorem dX4_tally_38 : decode cX4_tally 38 = .ok (.iload_n 3, 1) := by decide +kernel
theorem dX4_tally_39 : decode cX4_tally 39 = .ok (.sipush 1771, 3) := by decide +kernel
theorem dX4_tally_42 : decode cX4_tally 42 = .ok (.if_icmp .ge 50, 3) := by decide +kernel
theorem dX4_tally_45 : decode cX4_tally 45 = .ok (.aload_n 0, 1) := by decide +kernel
theorem dX4_tally_46 : decode cX4_tally 46 = .ok (.iload_n 1, 1) := by decide +kernel
theorem dX4_tally_47 : decode cX4_tally 47 = .ok (.invokevirtual 44, 3) := by decide +kernel
theorem dX4_tally_50 : decode cX4_tally 50 = .ok (.ifCond .eq 25, 3) := by decide +kernel
theorem dX4_tally_53 : decode cX4_tally 53 = .ok (.iinc 2 1, 3) := by decide +kernel
theorem dX4_tally_56 : decode cX4_tally 56 = .ok (.aload_n 0, 1) := by decide +kernel
theorem dX4_tally_57 : decode cX4_tally 57 = .ok (.dup, 1) := by decide +kernel
theorem dX4_tally_58 : decode cX4_tally 58 = .ok (.getfield 24, 3) := by decide +kernel
theorem dX4_tally_61 : decode cX4_tally 61 = .ok (.aload_n 0, 1) := by decide +kernel
theorem dX4_tally_62 : decode cX4_tally 62 = .ok (.iload_n 1, 1) := by decide +kernel
theorem dX4_tally_63 : decode cX4_tally 63 = .ok (.invokevirtual 48, 3) := by decide +kernel
theorem dX4_tally_66 : decode cX4_tally 66 = .ok (.iand, 1) := by decide +kernel
theorem dX4_tally_67 : decode cX4_tally 67 = .ok (.putfield 24, 3) := by decide +kernel
theorem dX4_tally_70 : decode cX4_tally 70 = .ok (.aload_n 0, 1) := by decide +kernel
theorem dX4_tally_71 : decode cX4_tally 71 = .ok (.iload_n 1, 1) := by decide +kernel
theorem dX4_tally_72 : decode cX4_tally 72 = .ok (.invokevirtual 52, 3) := by decide +kernel
theorem dX4_tally_75 : decode cX4_tally 75 = .ok (.aload_n 0, 1) := by decide +kernel
theorem dX4_tally_76 : decode cX4_tally 76 = .ok (.iload_n 1, 1) := by decide +kernel
theorem dX4_tally_77 : decode cX4_tally 77 = .ok (.invokevirtual 56, 3) := by decide +kernel
theorem dX4_tally_80 : decode cX4_tally 80 = .ok (.ifCond .ne 6, 3) := by decide +kernel
theorem dX4_tally_83 : decode cX4_tally 83 = .ok (.goto 9, 3) := by decide +kernel
theorem dX4_tally_86 : decode cX4_tally 86 = .ok (.iinc 3 1, 3) := by decide +kernel
theorem dX4_tally_89 : decode cX4_tally 89 = .ok (.goto (-51), 3) := by decide +kernel
theorem dX4_tally_92 : decode cX4_tally 92 = .ok (.iload_n 2, 1) := by decide +kernel
theorem dX4_tally_93 : decode cX4_tally 93 = .ok (.ireturn, 1) := by decide +kernel
theorem dX4_tallyRow_0 : decode cX4_tallyRow 0 = .ok (.iconst 0, 1) := by decide +kernel
theorem dX4_tallyRow_1 : decode cX4_tallyRow 1 = .ok (.istore_n 2, 1) := by decide +kernel
theorem dX4_tallyRow_2 : decode cX4_tallyRow 2 = .ok (.iconst 0, 1) := by decide +kernel
theorem dX4_tallyRow_3 : decode cX4_tallyRow 3 = .ok (.istore_n 3, 1) := by decide +kernel
theorem dX4_tallyRow_4 : decode cX4_tallyRow 4 = .ok (.iload_n 3, 1) := by decide +kernel
theorem dX4_tallyRow_5 : decode cX4_tallyRow 5 = .ok (.bipush 21, 2) := by decide +kernel
theorem dX4_tallyRow_7 : decode cX4_tallyRow 7 = .ok (.if_icmp .ge 49, 3) := by decide +kernel
theorem dX4_tallyRow_10 : decode cX4_tallyRow 10 = .ok (.iload_n 2, 1) := by decide +kernel
theorem dX4_tallyRow_11 : decode cX4_tallyRow 11 = .ok (.iload_n 1, 1) := by decide +kernel
theorem dX4_tallyRow_12 : decode cX4_tallyRow 12 = .ok (.if_icmp .ge 24, 3) := by decide +kernel
theorem dX4_tallyRow_15 : decode cX4_tallyRow 15 = .ok (.iload_n 2, 1) := by decide +kernel
theorem dX4_tallyRow_16 : decode cX4_tallyRow 16 = .ok (.iconst 3, 1) := by decide +kernel
theorem dX4_tallyRow_17 : decode cX4_tallyRow 17 = .ok (.if_icmp .ge 19, 3) := by decide +kernel
theorem dX4_tallyRow_20 : decode cX4_tallyRow 20 = .ok (.aload_n 0, 1) := by decide +kernel
theorem dX4_tallyRow_21 : decode cX4_tallyRow 21 = .ok (.getfield 18, 3) := by decide +kernel
theorem dX4_tallyRow_24 : decode cX4_tallyRow 24 = .ok (.iload_n 2, 1) := by decide +kernel
theorem dX4_tallyRow_25 : decode cX4_tallyRow 25 = .ok (.iaload, 1) := by decide +kernel
theorem dX4_tallyRow_26 : decode cX4_tallyRow 26 = .ok (.iload_n 3, 1) := by decide +kernel
theorem dX4_tallyRow_27 : decode cX4_tallyRow 27 = .ok (.if_icmp .gt 9, 3) := by decide +kernel
theorem dX4_tallyRow_30 : decode cX4_tallyRow 30 = .ok (.iinc 2 1, 3) := by decide +kernel
theorem dX4_tallyRow_33 : decode cX4_tallyRow 33 = .ok (.goto (-23), 3) := by decide +kernel
theorem dX4_tallyRow_36 : decode cX4_tallyRow 36 = .ok (.aload_n 0, 1) := by decide +kernel
theorem dX4_tallyRow_37 : decode cX4_tallyRow 37 = .ok (.getfield 21, 3) := by decide +kernel
theorem dX4_tallyRow_40 : decode cX4_tallyRow 40 = .ok (.iload_n 3, 1) := by decide +kernel
theorem dX4_tallyRow_41 : decode cX4_tallyRow 41 = .ok (.iconst 4, 1) := by decide +kernel
theorem dX4_tallyRow_42 : decode cX4_tallyRow 42 = .ok (.imul, 1) := by decide +kernel
theorem dX4_tallyRow_43 : decode cX4_tallyRow 43 = .ok (.iload_n 2, 1) := by decide +kernel
theorem dX4_tallyRow_44 : decode cX4_tallyRow 44 = .ok (.iadd, 1) := by decide +kernel
theorem dX4_tallyRow_45 : decode cX4_tallyRow 45 = .ok (.dup2, 1) := by decide +kernel
theorem dX4_tallyRow_46 : decode cX4_tallyRow 46 = .ok (.iaload, 1) := by decide +kernel
theorem dX4_tallyRow_47 : decode cX4_tallyRow 47 = .ok (.iconst 1, 1) := by decide +kernel
theorem dX4_tallyRow_48 : decode cX4_tallyRow 48 = .ok (.iadd, 1) := by decide +kernel
theorem dX4_tallyRow_49 : decode cX4_tallyRow 49 = .ok (.iastore, 1) := by decide +kernel
theorem dX4_tallyRow_50 : decode cX4_tallyRow 50 = .ok (.iinc 3 1, 3) := by decide +kernel
theorem dX4_tallyRow_53 : decode cX4_tallyRow 53 = .ok (.goto (-49), 3) := by decide +kernel
theorem dX4_tallyRow_56 : decode cX4_tallyRow 56 = .ok (.return_, 1) := by decide +kernel
theorem dX4_mostFrequent_0 : decode cX4_mostFrequent 0 = .ok (.iconst 0, 1) := by decide +kernel
theorem dX4_mostFrequent_1 : decode cX4_mostFrequent 1 = .ok (.istore_n 2, 1) := by decide +kernel
theorem dX4_mostFrequent_2 : decode cX4_mostFrequent 2 = .ok (.iconst 0, 1) := by decide +kernel
theorem dX4_mostFrequent_3 : decode cX4_mostFrequent 3 = .ok (.istore_n 3, 1) := by decide +kernel
theorem dX4_mostFrequent_4 : decode cX4_mostFrequent 4 = .ok (.iload_n 3, 1) := by decide +kernel
theorem dX4_mostFrequent_5 : decode cX4_mostFrequent 5 = .ok (.iconst 4, 1) := by decide +kernel
theorem dX4_mostFrequent_6 : decode cX4_mostFrequent 6 = .ok (.if_icmp .ge 34, 3) := by decide +kernel
theorem dX4_mostFrequent_9 : decode cX4_mostFrequent 9 = .ok (.iload_n 1, 1) := by decide +kernel
theorem dX4_mostFrequent_10 : decode cX4_mostFrequent 10 = .ok (.ifCond .lt 30, 3) := by decide +kernel
theorem dX4_mostFrequent_13 : decode cX4_mostFrequent 13 = .ok (.iload_n 1, 1) := by decide +kernel
theorem dX4_mostFrequent_14 : decode cX4_mostFrequent 14 = .ok (.bipush 21, 2) := by decide +kernel
theorem dX4_mostFrequent_16 : decode cX4_mostFrequent 16 = .ok (.if_icmp .ge 24, 3) := by decide +kernel
theorem dX4_mostFrequent_19 : decode cX4_mostFrequent 19 = .ok (.iload_n 2, 1) := by decide +kernel
theorem dX4_mostFrequent_20 : decode cX4_mostFrequent 20 = .ok (.aload_n 0, 1) := by decide +kernel
theorem dX4_mostFrequent_21 : decode cX4_mostFrequent 21 = .ok (.getfield 21, 3) := by decide +kernel
theorem dX4_mostFrequent_24 : decode cX4_mostFrequent 24 = .ok (.iload_n 1, 1) := by decide +kernel
theorem dX4_mostFrequent_25 : decode cX4_mostFrequent 25 = .ok (.iconst 4, 1) := by decide +kernel
theorem dX4_mostFrequent_26 : decode cX4_mostFrequent 26 = .ok (.imul, 1) := by decide +kernel
theorem dX4_mostFrequent_27 : decode cX4_mostFrequent 27 = .ok (.iload_n 3, 1) := by decide +kernel
theorem dX4_mostFrequent_28 : decode cX4_mostFrequent 28 = .ok (.iadd, 1) := by decide +kernel
theorem dX4_mostFrequent_29 : decode cX4_mostFrequent 29 = .ok (.iaload, 1) := by decide +kernel
theorem dX4_mostFrequent_30 : decode cX4_mostFrequent 30 = .ok (.invokestatic 59, 3) := by decide +kernel
theorem dX4_mostFrequent_33 : decode cX4_mostFrequent 33 = .ok (.istore_n 2, 1) := by decide +kernel
theorem dX4_mostFrequent_34 : decode cX4_mostFrequent 34 = .ok (.iinc 3 1, 3) := by decide +kernel
theorem dX4_mostFrequent_37 : decode cX4_mostFrequent 37 = .ok (.goto (-33), 3) := by decide +kernel
theorem dX4_mostFrequent_40 : decode cX4_mostFrequent 40 = .ok (.iload_n 2, 1) := by decide +kernel
theorem dX4_mostFrequent_41 : decode cX4_mostFrequent 41 = .ok (.ireturn, 1) := by decide +kernel
theorem dX4_bestQuestion_0 : decode cX4_bestQuestion 0 = .ok (.iconst 0, 1) := by decide +kernel
theorem dX4_bestQuestion_1 : decode cX4_bestQuestion 1 = .ok (.istore_n 1, 1) := by decide +kernel
theorem dX4_bestQuestion_2 : decode cX4_bestQuestion 2 = .ok (.iconst 1, 1) := by decide +kernel
theorem dX4_bestQuestion_3 : decode cX4_bestQuestion 3 = .ok (.istore_n 2, 1) := by decide +kernel
theorem dX4_bestQuestion_4 : decode cX4_bestQuestion 4 = .ok (.iload_n 2, 1) := by decide +kernel
theorem dX4_bestQuestion_5 : decode cX4_bestQuestion 5 = .ok (.bipush 21, 2) := by decide +kernel
theorem dX4_bestQuestion_7 : decode cX4_bestQuestion 7 = .ok (.if_icmp .ge 24, 3) := by decide +kernel
theorem dX4_bestQuestion_10 : decode cX4_bestQuestion 10 = .ok (.aload_n 0, 1) := by decide +kernel
theorem dX4_bestQuestion_11 : decode cX4_bestQuestion 11 = .ok (.iload_n 2, 1) := by decide +kernel
theorem dX4_bestQuestion_12 : decode cX4_bestQuestion 12 = .ok (.invokevirtual 62, 3) := by decide +kernel
theorem dX4_bestQuestion_15 : decode cX4_bestQuestion 15 = .ok (.aload_n 0, 1) := by decide +kernel
theorem dX4_bestQuestion_16 : decode cX4_bestQuestion 16 = .ok (.iload_n 1, 1) := by decide +kernel
theorem dX4_bestQuestion_17 : decode cX4_bestQuestion 17 = .ok (.invokevirtual 62, 3) := by decide +kernel
theorem dX4_bestQuestion_20 : decode cX4_bestQuestion 20 = .ok (.if_icmp .ge 5, 3) := by decide +kernel
theorem dX4_bestQuestion_23 : decode cX4_bestQuestion 23 = .ok (.iload_n 2, 1) := by decide +kernel
theorem dX4_bestQuestion_24 : decode cX4_bestQuestion 24 = .ok (.istore_n 1, 1) := by decide +kernel
theorem dX4_bestQuestion_25 : decode cX4_bestQuestion 25 = .ok (.iinc 2 1, 3) := by decide +kernel
theorem dX4_bestQuestion_28 : decode cX4_bestQuestion 28 = .ok (.goto (-24), 3) := by decide +kernel
theorem dX4_bestQuestion_31 : decode cX4_bestQuestion 31 = .ok (.iload_n 1, 1) := by decide +kernel
theorem dX4_bestQuestion_32 : decode cX4_bestQuestion 32 = .ok (.ireturn, 1) := by decide +kernel
theorem dX5_init_0 : decode cX5_init 0 = .ok (.aload_n 0, 1) := by decide +kernel
theorem dX5_init_1 : decode cX5_init 1 = .ok (.invokespecial 7, 3) := by decide +kernel
theorem dX5_init_4 : decode cX5_init 4 = .ok (.aload_n 0, 1) := by decide +kernel
theorem dX5_init_5 : decode cX5_init 5 = .ok (.sipush 420, 3) := by decide +kernel
theorem dX5_init_8 : decode cX5_init 8 = .ok (.newarray .int, 2) := by decide +kernel
theorem dX5_init_10 : decode cX5_init 10 = .ok (.putfield 13, 3) := by decide +kernel
theorem dX5_init_13 : decode cX5_init 13 = .ok (.aload_n 0, 1) := by decide +kernel
theorem dX5_init_14 : decode cX5_init 14 = .ok (.bipush 60, 2) := by decide +kernel
theorem dX5_init_16 : decode cX5_init 16 = .ok (.newarray .int, 2) := by decide +kernel
theorem dX5_init_18 : decode cX5_init 18 = .ok (.putfield 17, 3) := by decide +kernel
theorem dX5_init_21 : decode cX5_init 21 = .ok (.aload_n 0, 1) := by decide +kernel
theorem dX5_init_22 : decode cX5_init 22 = .ok (.iconst 0, 1) := by decide +kernel
theorem dX5_init_23 : decode cX5_init 23 = .ok (.putfield 20, 3) := by decide +kernel
theorem dX5_init_26 : decode cX5_init 26 = .ok (.aload_n 0, 1) := by decide +kernel
theorem dX5_init_27 : decode cX5_init 27 = .ok (.iconst 0, 1) := by decide +kernel
theorem dX5_init_28 : decode cX5_init 28 = .ok (.putfield 24, 3) := by decide +kernel
theorem dX5_init_31 : decode cX5_init 31 = .ok (.return_, 1) := by decide +kernel
theorem dX5_clear_0 : decode cX5_clear 0 = .ok (.aload_n 0, 1) := by decide +kernel
theorem dX5_clear_1 : decode cX5_clear 1 = .ok (.iconst 0, 1) := by decide +kernel
theorem dX5_clear_2 : decode cX5_clear 2 = .ok (.putfield 24, 3) := by decide +kernel
theorem dX5_clear_5 : decode cX5_clear 5 = .ok (.aload_n 0, 1) := by decide +kernel
theorem dX5_clear_6 : decode cX5_clear 6 = .ok (.iconst 0, 1) := by decide +kernel
theorem dX5_clear_7 : decode cX5_clear 7 = .ok (.putfield 20, 3) := by decide +kernel
theorem dX5_clear_10 : decode cX5_clear 10 = .ok (.return_, 1) := by decide +kernel
theorem dX5_length_0 : decode cX5_length 0 = .ok (.aload_n 0, 1) := by decide +kernel
theorem dX5_length_1 : decode cX5_length 1 = .ok (.getfield 24, 3) := by decide +kernel
theorem dX5_length_4 : decode cX5_length 4 = .ok (.bipush 60, 2) := by decide +kernel
theorem dX5_length_6 : decode cX5_length 6 = .ok (.invokestatic 27, 3) := by decide +kernel
theorem dX5_length_9 : decode cX5_length 9 = .ok (.ireturn, 1) := by decide +kernel
theorem dX5_add_0 : decode cX5_add 0 = .ok (.aload_n 0, 1) := by decide +kernel
theorem dX5_add_1 : decode cX5_add 1 = .ok (.getfield 13, 3) := by decide +kernel
theorem dX5_add_4 : decode cX5_add 4 = .ok (.aload_n 0, 1) := by decide +kernel
theorem dX5_add_5 : decode cX5_add 5 = .ok (.getfield 24, 3) := by decide +kernel
theorem dX5_add_8 : decode cX5_add 8 = .ok (.sipush 420, 3) := by decide +kernel
theorem dX5_add_11 : decode cX5_add 11 = .ok (.invokestatic 33, 3) := by decide +kernel
theorem dX5_add_14 : decode cX5_add 14 = .ok (.iload_n 1, 1) := by decide +kernel
theorem dX5_add_15 : decode cX5_add 15 = .ok (.bipush 100, 2) := by decide +kernel
theorem dX5_add_17 : decode cX5_add 17 = .ok (.imul, 1) := by decide +kernel
theorem dX5_add_18 : decode cX5_add 18 = .ok (.iload_n 2, 1) := by decide +kernel
theorem dX5_add_19 : decode cX5_add 19 = .ok (.iconst 1, 1) := by decide +kernel
theorem dX5_add_20 : decode cX5_add 20 = .ok (.iadd, 1) := by decide +kernel
theorem dX5_add_21 : decode cX5_add 21 = .ok (.bipush 10, 2) := by decide +kernel
theorem dX5_add_23 : decode cX5_add 23 = .ok (.imul, 1) := by decide +kernel
theorem dX5_add_24 : decode cX5_add 24 = .ok (.iadd, 1) := by decide +kernel
theorem dX5_add_25 : decode cX5_add 25 = .ok (.iload_n 3, 1) := by decide +kernel
theorem dX5_add_26 : decode cX5_add 26 = .ok (.iadd, 1) := by decide +kernel
theorem dX5_add_27 : decode cX5_add 27 = .ok (.iconst 1, 1) := by decide +kernel
theorem dX5_add_28 : decode cX5_add 28 = .ok (.iadd, 1) := by decide +kernel
theorem dX5_add_29 : decode cX5_add 29 = .ok (.iastore, 1) := by decide +kernel
theorem dX5_add_30 : decode cX5_add 30 = .ok (.aload_n 0, 1) := by decide +kernel
theorem dX5_add_31 : decode cX5_add 31 = .ok (.dup, 1) := by decide +kernel
theorem dX5_add_32 : decode cX5_add 32 = .ok (.getfield 24, 3) := by decide +kernel
theorem dX5_add_35 : decode cX5_add 35 = .ok (.iconst 1, 1) := by decide +kernel
theorem dX5_add_36 : decode cX5_add 36 = .ok (.iadd, 1) := by decide +kernel
theorem dX5_add_37 : decode cX5_add 37 = .ok (.putfield 24, 3) := by decide +kernel
theorem dX5_add_40 : decode cX5_add 40 = .ok (.return_, 1) := by decide +kernel
theorem dX5_line_0 : decode cX5_line 0 = .ok (.aload_n 0, 1) := by decide +kernel
theorem dX5_line_1 : decode cX5_line 1 = .ok (.getfield 13, 3) := by decide +kernel
theorem dX5_line_4 : decode cX5_line 4 = .ok (.aload_n 0, 1) := by decide +kernel
theorem dX5_line_5 : decode cX5_line 5 = .ok (.getfield 24, 3) := by decide +kernel
theorem dX5_line_8 : decode cX5_line 8 = .ok (.iconst 1, 1) := by decide +kernel
theorem dX5_line_9 : decode cX5_line 9 = .ok (.isub, 1) := by decide +kernel
theorem dX5_line_10 : decode cX5_line 10 = .ok (.iload_n 1, 1) := by decide +kernel
theorem dX5_line_11 : decode cX5_line 11 = .ok (.isub, 1) := by decide +kernel
theorem dX5_line_12 : decode cX5_line 12 = .ok (.sipush 420, 3) := by decide +kernel
theorem dX5_line_15 : decode cX5_line 15 = .ok (.invokestatic 33, 3) := by decide +kernel
theorem dX5_line_18 : decode cX5_line 18 = .ok (.iaload, 1) := by decide +kernel
theorem dX5_line_19 : decode cX5_line 19 = .ok (.ireturn, 1) := by decide +kernel
theorem dX5_whatOf_0 : decode cX5_whatOf 0 = .ok (.iload_n 0, 1) := by decide +kernel
theorem dX5_whatOf_1 : decode cX5_whatOf 1 = .ok (.bipush 100, 2) := by decide +kernel
theorem dX5_whatOf_3 : decode cX5_whatOf 3 = .ok (.idiv, 1) := by decide +kernel
theorem dX5_whatOf_4 : decode cX5_whatOf 4 = .ok (.ireturn, 1) := by decide +kernel
theorem dX5_whoOf_0 : decode cX5_whoOf 0 = .ok (.iload_n 0, 1) := by decide +kernel
theorem dX5_whoOf_1 : decode cX5_whoOf 1 = .ok (.bipush 10, 2) := by decide +kernel
theorem dX5_whoOf_3 : decode cX5_whoOf 3 = .ok (.idiv, 1) := by decide +kernel
theorem dX5_whoOf_4 : decode cX5_whoOf 4 = .ok (.bipush 10, 2) := by decide +kernel
theorem dX5_whoOf_6 : decode cX5_whoOf 6 = .ok (.irem, 1) := by decide +kernel
theorem dX5_whoOf_7 : decode cX5_whoOf 7 = .ok (.iconst 1, 1) := by decide +kernel
theorem dX5_whoOf_8 : decode cX5_whoOf 8 = .ok (.isub, 1) := by decide +kernel
theorem dX5_whoOf_9 : decode cX5_whoOf 9 = .ok (.ireturn, 1) := by decide +kernel
theorem dX5_whomOf_0 : decode cX5_whomOf 0 = .ok (.iload_n 0, 1) := by decide +kernel
theorem dX5_whomOf_1 : decode cX5_whomOf 1 = .ok (.bipush 10, 2) := by decide +kernel
theorem dX5_whomOf_3 : decode cX5_whomOf 3 = .ok (.irem, 1) := by decide +kernel
theorem dX5_whomOf_4 : decode cX5_whomOf 4 = .ok (.iconst 1, 1) := by decide +kernel
theorem dX5_whomOf_5 : decode cX5_whomOf 5 = .ok (.isub, 1) := by decide +kernel
theorem dX5_whomOf_6 : decode cX5_whomOf 6 = .ok (.ireturn, 1) := by decide +kernel
theorem dX5_keepImage_0 : decode cX5_keepImage 0 = .ok (.aload_n 0, 1) := by decide +kernel
theorem dX5_keepImage_1 : decode cX5_keepImage 1 = .ok (.aload_n 0, 1) := by decide +kernel
theorem dX5_keepImage_2 : decode cX5_keepImage 2 = .ok (.invokevirtual 36, 3) := by decide +kernel
theorem dX5_keepImage_5 : decode cX5_keepImage 5 = .ok (.putfield 20, 3) := by decide +kernel
theorem dX5_keepImage_8 : decode cX5_keepImage 8 = .ok (.iconst 0, 1) := by decide +kernel
theorem dX5_keepImage_9 : decode cX5_keepImage 9 = .ok (.istore_n 1, 1) := by decide +kernel
theorem dX5_keepImage_10 : decode cX5_keepImage 10 = .ok (.iload_n 1, 1) := by decide +kernel
theorem dX5_keepImage_11 : decode cX5_keepImage 11 = .ok (.aload_n 0, 1) := by decide +kernel
theorem dX5_keepImage_12 : decode cX5_keepImage 12 = .ok (.getfield 20, 3) := by decide +kernel
theorem dX5_keepImage_15 : decode cX5_keepImage 15 = .ok (.if_icmp .ge 33, 3) := by decide +kernel
theorem dX5_keepImage_18 : decode cX5_keepImage 18 = .ok (.iload_n 1, 1) := by decide +kernel
theorem dX5_keepImage_19 : decode cX5_keepImage 19 = .ok (.bipush 60, 2) := by decide +kernel
theorem dX5_keepImage_21 : decode cX5_keepImage 21 = .ok (.if_icmp .ge 27, 3) := by decide +kernel
theorem dX5_keepImage_24 : decode cX5_keepImage 24 = .ok (.aload_n 0, 1) := by decide +kernel
theorem dX5_keepImage_25 : decode cX5_keepImage 25 = .ok (.getfield 17, 3) := by decide +kernel
theorem dX5_keepImage_28 : decode cX5_keepImage 28 = .ok (.iload_n 1, 1) := by decide +kernel
theorem dX5_keepImage_29 : decode cX5_keepImage 29 = .ok (.aload_n 0, 1) := by decide +kernel
theorem dX5_keepImage_30 : decode cX5_keepImage 30 = .ok (.aload_n 0, 1) := by decide +kernel
theorem dX5_keepImage_31 : decode cX5_keepImage 31 = .ok (.getfield 20, 3) := by decide +kernel
theorem dX5_keepImage_34 : decode cX5_keepImage 34 = .ok (.iconst 1, 1) := by decide +kernel
theorem dX5_keepImage_35 : decode cX5_keepImage 35 = .ok (.isub, 1) := by decide +kernel
theorem dX5_keepImage_36 : decode cX5_keepImage 36 = .ok (.iload_n 1, 1) := by decide +kernel
theorem dX5_keepImage_37 : decode cX5_keepImage 37 = .ok (.isub, 1) := by decide +kernel
theorem dX5_keepImage_38 : decode cX5_keepImage 38 = .ok (.invokevirtual 40, 3) := by decide +kernel
theorem dX5_keepImage_41 : decode cX5_keepImage 41 = .ok (.iastore, 1) := by decide +kernel
theorem dX5_keepImage_42 : decode cX5_keepImage 42 = .ok (.iinc 1 1, 3) := by decide +kernel
theorem dX5_keepImage_45 : decode cX5_keepImage 45 = .ok (.goto (-35), 3) := by decide +kernel
theorem dX5_keepImage_48 : decode cX5_keepImage 48 = .ok (.return_, 1) := by decide +kernel
theorem dX5_bringImageBack_0 : decode cX5_bringImageBack 0 = .ok (.iconst 0, 1) := by decide +kernel
theorem dX5_bringImageBack_1 : decode cX5_bringImageBack 1 = .ok (.istore_n 1, 1) := by decide +kernel
theorem dX5_bringImageBack_2 : decode cX5_bringImageBack 2 = .ok (.iload_n 1, 1) := by decide +kernel
theorem dX5_bringImageBack_3 : decode cX5_bringImageBack 3 = .ok (.aload_n 0, 1) := by decide +kernel
theorem dX5_bringImageBack_4 : decode cX5_bringImageBack 4 = .ok (.getfield 20, 3) := by decide +kernel
theorem dX5_bringImageBack_7 : decode cX5_bringImageBack 7 = .ok (.if_icmp .ge 27, 3) := by decide +kernel
theorem dX5_bringImageBack_10 : decode cX5_bringImageBack 10 = .ok (.iload_n 1, 1) := by decide +kernel
theorem dX5_bringImageBack_11 : decode cX5_bringImageBack 11 = .ok (.bipush 60, 2) := by decide +kernel
theorem dX5_bringImageBack_13 : decode cX5_bringImageBack 13 = .ok (.if_icmp .ge 21, 3) := by decide +kernel
theorem dX5_bringImageBack_16 : decode cX5_bringImageBack 16 = .ok (.aload_n 0, 1) := by decide +kernel
theorem dX5_bringImageBack_17 : decode cX5_bringImageBack 17 = .ok (.getfield 13, 3) := by decide +kernel
theorem dX5_bringImageBack_20 : decode cX5_bringImageBack 20 = .ok (.iload_n 1, 1) := by decide +kernel
theorem dX5_bringImageBack_21 : decode cX5_bringImageBack 21 = .ok (.aload_n 0, 1) := by decide +kernel
theorem dX5_bringImageBack_22 : decode cX5_bringImageBack 22 = .ok (.getfield 17, 3) := by decide +kernel
theorem dX5_bringImageBack_25 : decode cX5_bringImageBack 25 = .ok (.iload_n 1, 1) := by decide +kernel
theorem dX5_bringImageBack_26 : decode cX5_bringImageBack 26 = .ok (.iaload, 1) := by decide +kernel
theorem dX5_bringImageBack_27 : decode cX5_bringImageBack 27 = .ok (.iastore, 1) := by decide +kernel
theorem dX5_bringImageBack_28 : decode cX5_bringImageBack 28 = .ok (.iinc 1 1, 3) := by decide +kernel
theorem dX5_bringImageBack_31 : decode cX5_bringImageBack 31 = .ok (.goto (-29), 3) := by decide +kernel
theorem dX5_bringImageBack_34 : decode cX5_bringImageBack 34 = .ok (.aload_n 0, 1) := by decide +kernel
theorem dX5_bringImageBack_35 : decode cX5_bringImageBack 35 = .ok (.aload_n 0, 1) := by decide +kernel
theorem dX5_bringImageBack_36 : decode cX5_bringImageBack 36 = .ok (.getfield 20, 3) := by decide +kernel
theorem dX5_bringImageBack_39 : decode cX5_bringImageBack 39 = .ok (.putfield 24, 3) := by decide +kernel
theorem dX5_bringImageBack_42 : decode cX5_bringImageBack 42 = .ok (.return_, 1) := by decide +kernel
theorem dX6_init_0 : decode cX6_init 0 = .ok (.aload_n 0, 1) := by decide +kernel
theorem dX6_init_1 : decode cX6_init 1 = .ok (.invokespecial 3, 3) := by decide +kernel
theorem dX6_init_4 : decode cX6_init 4 = .ok (.aload_n 0, 1) := by decide +kernel
theorem dX6_init_5 : decode cX6_init 5 = .ok (.bipush 41, 2) := by decide +kernel
theorem dX6_init_7 : decode cX6_init 7 = .ok (.newarray .long, 2) := by decide +kernel
theorem dX6_init_9 : decode cX6_init 9 = .ok (.putfield 9, 3) := by decide +kernel
theorem dX6_init_12 : decode cX6_init 12 = .ok (.aload_n 0, 1) := by decide +kernel
theorem dX6_init_13 : decode cX6_init 13 = .ok (.bipush 41, 2) := by decide +kernel
theorem dX6_init_15 : decode cX6_init 15 = .ok (.newarray .long, 2) := by decide +kernel
theorem dX6_init_17 : decode cX6_init 17 = .ok (.putfield 13, 3) := by decide +kernel
theorem dX6_init_20 : decode cX6_init 20 = .ok (.aload_n 0, 1) := by decide +kernel
theorem dX6_init_21 : decode cX6_init 21 = .ok (.bipush 41, 2) := by decide +kernel
theorem dX6_init_23 : decode cX6_init 23 = .ok (.newarray .int, 2) := by decide +kernel
theorem dX6_init_25 : decode cX6_init 25 = .ok (.putfield 16, 3) := by decide +kernel
theorem dX6_init_28 : decode cX6_init 28 = .ok (.aload_n 0, 1) := by decide +kernel
theorem dX6_init_29 : decode cX6_init 29 = .ok (.bipush 41, 2) := by decide +kernel
theorem dX6_init_31 : decode cX6_init 31 = .ok (.newarray .int, 2) := by decide +kernel
theorem dX6_init_33 : decode cX6_init 33 = .ok (.putfield 20, 3) := by decide +kernel
theorem dX6_init_36 : decode cX6_init 36 = .ok (.aload_n 0, 1) := by decide +kernel
theorem dX6_init_37 : decode cX6_init 37 = .ok (.bipush 40, 2) := by decide +kernel
theorem dX6_init_39 : decode cX6_init 39 = .ok (.newarray .int, 2) := by decide +kernel
theorem dX6_init_41 : decode cX6_init 41 = .ok (.putfield 23, 3) := by decide +kernel
theorem dX6_init_44 : decode cX6_init 44 = .ok (.aload_n 0, 1) := by decide +kernel
theorem dX6_init_45 : decode cX6_init 45 = .ok (.iconst 0, 1) := by decide +kernel
theorem dX6_init_46 : decode cX6_init 46 = .ok (.putfield 26, 3) := by decide +kernel
theorem dX6_init_49 : decode cX6_init 49 = .ok (.aload_n 0, 1) := by decide +kernel
theorem dX6_init_50 : decode cX6_init 50 = .ok (.iconst 0, 1) := by decide +kernel
theorem dX6_init_51 : decode cX6_init 51 = .ok (.putfield 30, 3) := by decide +kernel
theorem dX6_init_54 : decode cX6_init 54 = .ok (.aload_n 0, 1) := by decide +kernel
theorem dX6_init_55 : decode cX6_init 55 = .ok (.iconst 0, 1) := by decide +kernel
theorem dX6_init_56 : decode cX6_init 56 = .ok (.putfield 33, 3) := by decide +kernel
theorem dX6_init_59 : decode cX6_init 59 = .ok (.return_, 1) := by decide +kernel
theorem dX6_clear_0 : decode cX6_clear 0 = .ok (.aload_n 0, 1) := by decide +kernel
theorem dX6_clear_1 : decode cX6_clear 1 = .ok (.iconst 0, 1) := by decide +kernel
theorem dX6_clear_2 : decode cX6_clear 2 = .ok (.putfield 30, 3) := by decide +kernel
theorem dX6_clear_5 : decode cX6_clear 5 = .ok (.aload_n 0, 1) := by decide +kernel
theorem dX6_clear_6 : decode cX6_clear 6 = .ok (.iconst 0, 1) := by decide +kernel
theorem dX6_clear_7 : decode cX6_clear 7 = .ok (.putfield 33, 3) := by decide +kernel
theorem dX6_clear_10 : decode cX6_clear 10 = .ok (.return_, 1) := by decide +kernel
theorem dX6_keepAct_0 : decode cX6_keepAct 0 = .ok (.aload_n 0, 1) := by decide +kernel
theorem dX6_keepAct_1 : decode cX6_keepAct 1 = .ok (.aload_n 0, 1) := by decide +kernel
theorem dX6_keepAct_2 : decode cX6_keepAct 2 = .ok (.getfield 26, 3) := by decide +kernel
theorem dX6_keepAct_5 : decode cX6_keepAct 5 = .ok (.bipush 40, 2) := by decide +kernel
theorem dX6_keepAct_7 : decode cX6_keepAct 7 = .ok (.invokestatic 37, 3) := by decide +kernel
theorem dX6_keepAct_10 : decode cX6_keepAct 10 = .ok (.putfield 26, 3) := by decide +kernel
theorem dX6_keepAct_13 : decode cX6_keepAct 13 = .ok (.aload_n 0, 1) := by decide +kernel
theorem dX6_keepAct_14 : decode cX6_keepAct 14 = .ok (.aload_n 0, 1) := by decide +kernel
theorem dX6_keepAct_15 : decode cX6_keepAct 15 = .ok (.getfield 26, 3) := by decide +kernel
theorem dX6_keepAct_18 : decode cX6_keepAct 18 = .ok (.aload_n 1, 1) := by decide +kernel
theorem dX6_keepAct_19 : decode cX6_keepAct 19 = .ok (.invokevirtual 43, 3) := by decide +kernel
theorem dX6_keepAct_22 : decode cX6_keepAct 22 = .ok (.aload_n 0, 1) := by decide +kernel
theorem dX6_keepAct_23 : decode cX6_keepAct 23 = .ok (.getfield 23, 3) := by decide +kernel
theorem dX6_keepAct_26 : decode cX6_keepAct 26 = .ok (.aload_n 0, 1) := by decide +kernel
theorem dX6_keepAct_27 : decode cX6_keepAct 27 = .ok (.getfield 26, 3) := by decide +kernel
theorem dX6_keepAct_30 : decode cX6_keepAct 30 = .ok (.aload_n 2, 1) := by decide +kernel
theorem dX6_keepAct_31 : decode cX6_keepAct 31 = .ok (.getfield 47, 3) := by decide +kernel
theorem dX6_keepAct_34 : decode cX6_keepAct 34 = .ok (.iastore, 1) := by decide +kernel
theorem dX6_keepAct_35 : decode cX6_keepAct 35 = .ok (.aload_n 0, 1) := by decide +kernel
theorem dX6_keepAct_36 : decode cX6_keepAct 36 = .ok (.dup, 1) := by decide +kernel
theorem dX6_keepAct_37 : decode cX6_keepAct 37 = .ok (.getfield 26, 3) := by decide +kernel
theorem dX6_keepAct_40 : decode cX6_keepAct 40 = .ok (.iconst 1, 1) := by decide +kernel
theorem dX6_keepAct_41 : decode cX6_keepAct 41 = .ok (.iadd, 1) := by decide +kernel
theorem dX6_keepAct_42 : decode cX6_keepAct 42 = .ok (.putfield 26, 3) := by decide +kernel
theorem dX6_keepAct_45 : decode cX6_keepAct 45 = .ok (.aload_n 0, 1) := by decide +kernel
theorem dX6_keepAct_46 : decode cX6_keepAct 46 = .ok (.aload_n 0, 1) := by decide +kernel
theorem dX6_keepAct_47 : decode cX6_keepAct 47 = .ok (.getfield 30, 3) := by decide +kernel
theorem dX6_keepAct_50 : decode cX6_keepAct 50 = .ok (.iconst 1, 1) := by decide +kernel
theorem dX6_keepAct_51 : decode cX6_keepAct 51 = .ok (.iadd, 1) := by decide +kernel
theorem dX6_keepAct_52 : decode cX6_keepAct 52 = .ok (.bipush 40, 2) := by decide +kernel
theorem dX6_keepAct_54 : decode cX6_keepAct 54 = .ok (.invokestatic 51, 3) := by decide +kernel
theorem dX6_keepAct_57 : decode cX6_keepAct 57 = .ok (.putfield 30, 3) := by decide +kernel
theorem dX6_keepAct_60 : decode cX6_keepAct 60 = .ok (.return_, 1) := by decide +kernel
theorem dX6_undoAct_0 : decode cX6_undoAct 0 = .ok (.aload_n 0, 1) := by decide +kernel
theorem dX6_undoAct_1 : decode cX6_undoAct 1 = .ok (.aload_n 0, 1) := by decide +kernel
theorem dX6_undoAct_2 : decode cX6_undoAct 2 = .ok (.getfield 26, 3) := by decide +kernel
theorem dX6_undoAct_5 : decode cX6_undoAct 5 = .ok (.iconst 1, 1) := by decide +kernel
theorem dX6_undoAct_6 : decode cX6_undoAct 6 = .ok (.isub, 1) := by decide +kernel
theorem dX6_undoAct_7 : decode cX6_undoAct 7 = .ok (.bipush 40, 2) := by decide +kernel
theorem dX6_undoAct_9 : decode cX6_undoAct 9 = .ok (.invokestatic 37, 3) := by decide +kernel
theorem dX6_undoAct_12 : decode cX6_undoAct 12 = .ok (.putfield 26, 3) := by decide +kernel
theorem dX6_undoAct_15 : decode cX6_undoAct 15 = .ok (.aload_n 1, 1) := by decide +kernel
theorem dX6_undoAct_16 : decode cX6_undoAct 16 = .ok (.aload_n 0, 1) := by decide +kernel
theorem dX6_undoAct_17 : decode cX6_undoAct 17 = .ok (.getfield 9, 3) := by decide +kernel
theorem dX6_undoAct_20 : decode cX6_undoAct 20 = .ok (.aload_n 0, 1) := by decide +kernel
theorem dX6_undoAct_21 : decode cX6_undoAct 21 = .ok (.getfield 26, 3) := by decide +kernel
theorem dX6_undoAct_24 : decode cX6_undoAct 24 = .ok (.laload, 1) := by decide +kernel
theorem dX6_undoAct_25 : decode cX6_undoAct 25 = .ok (.aload_n 0, 1) := by decide +kernel
theorem dX6_undoAct_26 : decode cX6_undoAct 26 = .ok (.getfield 13, 3) := by decide +kernel
theorem dX6_undoAct_29 : decode cX6_undoAct 29 = .ok (.aload_n 0, 1) := by decide +kernel
theorem dX6_undoAct_30 : decode cX6_undoAct 30 = .ok (.getfield 26, 3) := by decide +kernel
theorem dX6_undoAct_33 : decode cX6_undoAct 33 = .ok (.laload, 1) := by decide +kernel
theorem dX6_undoAct_34 : decode cX6_undoAct 34 = .ok (.aload_n 0, 1) := by decide +kernel
theorem dX6_undoAct_35 : decode cX6_undoAct 35 = .ok (.getfield 16, 3) := by decide +kernel
theorem dX6_undoAct_38 : decode cX6_undoAct 38 = .ok (.aload_n 0, 1) := by decide +kernel
theorem dX6_undoAct_39 : decode cX6_undoAct 39 = .ok (.getfield 26, 3) := by decide +kernel
theorem dX6_undoAct_42 : decode cX6_undoAct 42 = .ok (.iaload, 1) := by decide +kernel
theorem dX6_undoAct_43 : decode cX6_undoAct 43 = .ok (.aload_n 0, 1) := by decide +kernel
theorem dX6_undoAct_44 : decode cX6_undoAct 44 = .ok (.getfield 20, 3) := by decide +kernel
theorem dX6_undoAct_47 : decode cX6_undoAct 47 = .ok (.aload_n 0, 1) := by decide +kernel
theorem dX6_undoAct_48 : decode cX6_undoAct 48 = .ok (.getfield 26, 3) := by decide +kernel
theorem dX6_undoAct_51 : decode cX6_undoAct 51 = .ok (.iaload, 1) := by decide +kernel
theorem dX6_undoAct_52 : decode cX6_undoAct 52 = .ok (.invokevirtual 54, 3) := by decide +kernel
theorem dX6_undoAct_55 : decode cX6_undoAct 55 = .ok (.aload_n 2, 1) := by decide +kernel
theorem dX6_undoAct_56 : decode cX6_undoAct 56 = .ok (.aload_n 0, 1) := by decide +kernel
theorem dX6_undoAct_57 : decode cX6_undoAct 57 = .ok (.getfield 23, 3) := by decide +kernel
theorem dX6_undoAct_60 : decode cX6_undoAct 60 = .ok (.aload_n 0, 1) := by decide +kernel
theorem dX6_undoAct_61 : decode cX6_undoAct 61 = .ok (.getfield 26, 3) := by decide +kernel
theorem dX6_undoAct_64 : decode cX6_undoAct 64 = .ok (.iaload, 1) := by decide +kernel
theorem dX6_undoAct_65 : decode cX6_undoAct 65 = .ok (.putfield 47, 3) := by decide +kernel
theorem dX6_undoAct_68 : decode cX6_undoAct 68 = .ok (.aload_n 0, 1) := by decide +kernel
theorem dX6_undoAct_69 : decode cX6_undoAct 69 = .ok (.dup, 1) := by decide +kernel
theorem dX6_undoAct_70 : decode cX6_undoAct 70 = .ok (.getfield 30, 3) := by decide +kernel
theorem dX6_undoAct_73 : decode cX6_undoAct 73 = .ok (.iconst 1, 1) := by decide +kernel
theorem dX6_undoAct_74 : decode cX6_undoAct 74 = .ok (.isub, 1) := by decide +kernel
theorem dX6_undoAct_75 : decode cX6_undoAct 75 = .ok (.putfield 30, 3) := by decide +kernel
theorem dX6_undoAct_78 : decode cX6_undoAct 78 = .ok (.return_, 1) := by decide +kernel
theorem dX6_keepImage_0 : decode cX6_keepImage 0 = .ok (.aload_n 0, 1) := by decide +kernel
theorem dX6_keepImage_1 : decode cX6_keepImage 1 = .ok (.bipush 40, 2) := by decide +kernel
theorem dX6_keepImage_3 : decode cX6_keepImage 3 = .ok (.aload_n 1, 1) := by decide +kernel
theorem dX6_keepImage_4 : decode cX6_keepImage 4 = .ok (.invokevirtual 43, 3) := by decide +kernel
theorem dX6_keepImage_7 : decode cX6_keepImage 7 = .ok (.aload_n 2, 1) := by decide +kernel
theorem dX6_keepImage_8 : decode cX6_keepImage 8 = .ok (.invokevirtual 60, 3) := by decide +kernel
theorem dX6_keepImage_11 : decode cX6_keepImage 11 = .ok (.aload_n 0, 1) := by decide +kernel
theorem dX6_keepImage_12 : decode cX6_keepImage 12 = .ok (.iconst 1, 1) := by decide +kernel
theorem dX6_keepImage_13 : decode cX6_keepImage 13 = .ok (.putfield 33, 3) := by decide +kernel
theorem dX6_keepImage_16 : decode cX6_keepImage 16 = .ok (.return_, 1) := by decide +kernel
theorem dX6_bringImageBack_0 : decode cX6_bringImageBack 0 = .ok (.aload_n 1, 1) := by decide +kernel
theorem dX6_bringImageBack_1 : decode cX6_bringImageBack 1 = .ok (.aload_n 0, 1) := by decide +kernel
theorem dX6_bringImageBack_2 : decode cX6_bringImageBack 2 = .ok (.getfield 9, 3) := by decide +kernel
theorem dX6_bringImageBack_5 : decode cX6_bringImageBack 5 = .ok (.bipush 40, 2) := by decide +kernel
theorem dX6_bringImageBack_7 : decode cX6_bringImageBack 7 = .ok (.laload, 1) := by decide +kernel
theorem dX6_bringImageBack_8 : decode cX6_bringImageBack 8 = .ok (.aload_n 0, 1) := by decide +kernel
theorem dX6_bringImageBack_9 : decode cX6_bringImageBack 9 = .ok (.getfield 13, 3) := by decide +kernel
theorem dX6_bringImageBack_12 : decode cX6_bringImageBack 12 = .ok (.bipush 40, 2) := by decide +kernel
theorem dX6_bringImageBack_14 : decode cX6_bringImageBack 14 = .ok (.laload, 1) := by decide +kernel
theorem dX6_bringImageBack_15 : decode cX6_bringImageBack 15 = .ok (.aload_n 0, 1) := by decide +kernel
theorem dX6_bringImageBack_16 : decode cX6_bringImageBack 16 = .ok (.getfield 16, 3) := by decide +kernel
theorem dX6_bringImageBack_19 : decode cX6_bringImageBack 19 = .ok (.bipush 40, 2) := by decide +kernel
theorem dX6_bringImageBack_21 : decode cX6_bringImageBack 21 = .ok (.iaload, 1) := by decide +kernel
theorem dX6_bringImageBack_22 : decode cX6_bringImageBack 22 = .ok (.aload_n 0, 1) := by decide +kernel
theorem dX6_bringImageBack_23 : decode cX6_bringImageBack 23 = .ok (.getfield 20, 3) := by decide +kernel
theorem dX6_bringImageBack_26 : decode cX6_bringImageBack 26 = .ok (.bipush 40, 2) := by decide +kernel
theorem dX6_bringImageBack_28 : decode cX6_bringImageBack 28 = .ok (.iaload, 1) := by decide +kernel
theorem dX6_bringImageBack_29 : decode cX6_bringImageBack 29 = .ok (.invokevirtual 54, 3) := by decide +kernel
theorem dX6_bringImageBack_32 : decode cX6_bringImageBack 32 = .ok (.aload_n 2, 1) := by decide +kernel
theorem dX6_bringImageBack_33 : decode cX6_bringImageBack 33 = .ok (.invokevirtual 63, 3) := by decide +kernel
theorem dX6_bringImageBack_36 : decode cX6_bringImageBack 36 = .ok (.aload_n 0, 1) := by decide +kernel
theorem dX6_bringImageBack_37 : decode cX6_bringImageBack 37 = .ok (.iconst 0, 1) := by decide +kernel
theorem dX6_bringImageBack_38 : decode cX6_bringImageBack 38 = .ok (.putfield 30, 3) := by decide +kernel
theorem dX6_bringImageBack_41 : decode cX6_bringImageBack 41 = .ok (.return_, 1) := by decide +kernel
theorem dX6_keep_0 : decode cX6_keep 0 = .ok (.aload_n 0, 1) := by decide +kernel
theorem dX6_keep_1 : decode cX6_keep 1 = .ok (.getfield 9, 3) := by decide +kernel
theorem dX6_keep_4 : decode cX6_keep 4 = .ok (.iload_n 1, 1) := by decide +kernel
theorem dX6_keep_5 : decode cX6_keep 5 = .ok (.aload_n 2, 1) := by decide +kernel
theorem dX6_keep_6 : decode cX6_keep 6 = .ok (.invokevirtual 66, 3) := by decide +kernel
theorem dX6_keep_9 : decode cX6_keep 9 = .ok (.lastore, 1) := by decide +kernel
theorem dX6_keep_10 : decode cX6_keep 10 = .ok (.aload_n 0, 1) := by decide +kernel
theorem dX6_keep_11 : decode cX6_keep 11 = .ok (.getfield 13, 3) := by decide +kernel
theorem dX6_keep_14 : decode cX6_keep 14 = .ok (.iload_n 1, 1) := by decide +kernel
theorem dX6_keep_15 : decode cX6_keep 15 = .ok (.aload_n 2, 1) := by decide +kernel
theorem dX6_keep_16 : decode cX6_keep 16 = .ok (.invokevirtual 70, 3) := by decide +kernel
theorem dX6_keep_19 : decode cX6_keep 19 = .ok (.lastore, 1) := by decide +kernel
theorem dX6_keep_20 : decode cX6_keep 20 = .ok (.aload_n 0, 1) := by decide +kernel
theorem dX6_keep_21 : decode cX6_keep 21 = .ok (.getfield 16, 3) := by decide +kernel
theorem dX6_keep_24 : decode cX6_keep 24 = .ok (.iload_n 1, 1) := by decide +kernel
theorem dX6_keep_25 : decode cX6_keep 25 = .ok (.aload_n 2, 1) := by decide +kernel
theorem dX6_keep_26 : decode cX6_keep 26 = .ok (.getfield 73, 3) := by decide +kernel
theorem dX6_keep_29 : decode cX6_keep 29 = .ok (.iastore, 1) := by decide +kernel
theorem dX6_keep_30 : decode cX6_keep 30 = .ok (.aload_n 0, 1) := by decide +kernel
theorem dX6_keep_31 : decode cX6_keep 31 = .ok (.getfield 20, 3) := by decide +kernel
theorem dX6_keep_34 : decode cX6_keep 34 = .ok (.iload_n 1, 1) := by decide +kernel
theorem dX6_keep_35 : decode cX6_keep 35 = .ok (.aload_n 2, 1) := by decide +kernel
theorem dX6_keep_36 : decode cX6_keep 36 = .ok (.getfield 75, 3) := by decide +kernel
theorem dX6_keep_39 : decode cX6_keep 39 = .ok (.iastore, 1) := by decide +kernel
theorem dX6_keep_40 : decode cX6_keep 40 = .ok (.return_, 1) := by decide +kernel
theorem dX7_init_0 : decode cX7_init 0 = .ok (.aload_n 0, 1) := by decide +kernel
theorem dX7_init_1 : decode cX7_init 1 = .ok (.invokespecial 3, 3) := by decide +kernel
theorem dX7_init_4 : decode cX7_init 4 = .ok (.aload_n 0, 1) := by decide +kernel
theorem dX7_init_5 : decode cX7_init 5 = .ok (.bipush 8, 2) := by decide +kernel
theorem dX7_init_7 : decode cX7_init 7 = .ok (.newarray .int, 2) := by decide +kernel
theorem dX7_init_9 : decode cX7_init 9 = .ok (.putfield 11, 3) := by decide +kernel
theorem dX7_init_12 : decode cX7_init 12 = .ok (.aload_n 0, 1) := by decide +kernel
theorem dX7_init_13 : decode cX7_init 13 = .ok (.bipush 8, 2) := by decide +kernel
theorem dX7_init_15 : decode cX7_init 15 = .ok (.newarray .int, 2) := by decide +kernel
theorem dX7_init_17 : decode cX7_init 17 = .ok (.putfield 17, 3) := by decide +kernel
theorem dX7_init_20 : decode cX7_init 20 = .ok (.aload_n 0, 1) := by decide +kernel
theorem dX7_init_21 : decode cX7_init 21 = .ok (.iconst 0, 1) := by decide +kernel
theorem dX7_init_22 : decode cX7_init 22 = .ok (.putfield 20, 3) := by decide +kernel
theorem dX7_init_25 : decode cX7_init 25 = .ok (.aload_n 0, 1) := by decide +kernel
theorem dX7_init_26 : decode cX7_init 26 = .ok (.iconst 0, 1) := by decide +kernel
theorem dX7_init_27 : decode cX7_init 27 = .ok (.putfield 24, 3) := by decide +kernel
theorem dX7_init_30 : decode cX7_init 30 = .ok (.aload_n 0, 1) := by decide +kernel
theorem dX7_init_31 : decode cX7_init 31 = .ok (.iconst 0, 1) := by decide +kernel
theorem dX7_init_32 : decode cX7_init 32 = .ok (.putfield 27, 3) := by decide +kernel
theorem dX7_init_35 : decode cX7_init 35 = .ok (.aload_n 0, 1) := by decide +kernel
theorem dX7_init_36 : decode cX7_init 36 = .ok (.aload_n 1, 1) := by decide +kernel
theorem dX7_init_37 : decode cX7_init 37 = .ok (.putfield 30, 3) := by decide +kernel
theorem dX7_init_40 : decode cX7_init 40 = .ok (.aload_n 0, 1) := by decide +kernel
theorem dX7_init_41 : decode cX7_init 41 = .ok (.aload_n 2, 1) := by decide +kernel
theorem dX7_init_42 : decode cX7_init 42 = .ok (.putfield 34, 3) := by decide +kernel
theorem dX7_init_45 : decode cX7_init 45 = .ok (.return_, 1) := by decide +kernel
theorem dX7_begin_0 : decode cX7_begin 0 = .ok (.aload_n 0, 1) := by decide +kernel
theorem dX7_begin_1 : decode cX7_begin 1 = .ok (.iconst 0, 1) := by decide +kernel
theorem dX7_begin_2 : decode cX7_begin 2 = .ok (.putfield 20, 3) := by decide +kernel
theorem dX7_begin_5 : decode cX7_begin 5 = .ok (.aload_n 0, 1) := by decide +kernel
theorem dX7_begin_6 : decode cX7_begin 6 = .ok (.iconst 0, 1) := by decide +kernel
theorem dX7_begin_7 : decode cX7_begin 7 = .ok (.putfield 24, 3) := by decide +kernel
theorem dX7_begin_10 : decode cX7_begin 10 = .ok (.aload_n 0, 1) := by decide +kernel
theorem dX7_begin_11 : decode cX7_begin 11 = .ok (.iconst 0, 1) := by decide +kernel
theorem dX7_begin_12 : decode cX7_begin 12 = .ok (.putfield 27, 3) := by decide +kernel
theorem dX7_begin_15 : decode cX7_begin 15 = .ok (.iconst 0, 1) := by decide +kernel
theorem dX7_begin_16 : decode cX7_begin 16 = .ok (.istore_n 1, 1) := by decide +kernel
theorem dX7_begin_17 : decode cX7_begin 17 = .ok (.iload_n 1, 1) := by decide +kernel
theorem dX7_begin_18 : decode cX7_begin 18 = .ok (.aload_n 0, 1) := by decide +kernel
theorem dX7_begin_19 : decode cX7_begin 19 = .ok (.getfield 30, 3) := by decide +kernel
theorem dX7_begin_22 : decode cX7_begin 22 = .ok (.getfield 38, 3) := by decide +kernel
theorem dX7_begin_25 : decode cX7_begin 25 = .ok (.if_icmp .ge 40, 3) := by decide +kernel
theorem dX7_begin_28 : decode cX7_begin 28 = .ok (.aload_n 0, 1) := by decide +kernel
theorem dX7_begin_29 : decode cX7_begin 29 = .ok (.getfield 11, 3) := by decide +kernel
theorem dX7_begin_32 : decode cX7_begin 32 = .ok (.iload_n 1, 1) := by decide +kernel
theorem dX7_begin_33 : decode cX7_begin 33 = .ok (.aload_n 0, 1) := by decide +kernel
theorem dX7_begin_34 : decode cX7_begin 34 = .ok (.getfield 30, 3) := by decide +kernel
theorem dX7_begin_37 : decode cX7_begin 37 = .ok (.getfield 41, 3) := by decide +kernel
theorem dX7_begin_40 : decode cX7_begin 40 = .ok (.iload_n 1, 1) := by decide +kernel
theorem dX7_begin_41 : decode cX7_begin 41 = .ok (.iaload, 1) := by decide +kernel
theorem dX7_begin_42 : decode cX7_begin 42 = .ok (.iastore, 1) := by decide +kernel
theorem dX7_begin_43 : decode cX7_begin 43 = .ok (.aload_n 0, 1) := by decide +kernel
theorem dX7_begin_44 : decode cX7_begin 44 = .ok (.getfield 17, 3) := by decide +kernel
theorem dX7_begin_47 : decode cX7_begin 47 = .ok (.iload_n 1, 1) := by decide +kernel
theorem dX7_begin_48 : decode cX7_begin 48 = .ok (.aload_n 0, 1) := by decide +kernel
theorem dX7_begin_49 : decode cX7_begin 49 = .ok (.aload_n 0, 1) := by decide +kernel
theorem dX7_begin_50 : decode cX7_begin 50 = .ok (.getfield 11, 3) := by decide +kernel
theorem dX7_begin_53 : decode cX7_begin 53 = .ok (.iload_n 1, 1) := by decide +kernel
theorem dX7_begin_54 : decode cX7_begin 54 = .ok (.iaload, 1) := by decide +kernel
theorem dX7_begin_55 : decode cX7_begin 55 = .ok (.invokevirtual 44, 3) := by decide +kernel
theorem dX7_begin_58 : decode cX7_begin 58 = .ok (.iastore, 1) := by decide +kernel
theorem dX7_begin_59 : decode cX7_begin 59 = .ok (.iinc 1 1, 3) := by decide +kernel
theorem dX7_begin_62 : decode cX7_begin 62 = .ok (.goto (-45), 3) := by decide +kernel
theorem dX7_begin_65 : decode cX7_begin 65 = .ok (.aload_n 0, 1) := by decide +kernel
theorem dX7_begin_66 : decode cX7_begin 66 = .ok (.invokevirtual 48, 3) := by decide +kernel
theorem dX7_begin_69 : decode cX7_begin 69 = .ok (.return_, 1) := by decide +kernel
theorem dX7_restAt_0 : decode cX7_restAt 0 = .ok (.iload_n 1, 1) := by decide +kernel
theorem dX7_restAt_1 : decode cX7_restAt 1 = .ok (.ifCond .lt 21, 3) := by decide +kernel
theorem dX7_restAt_4 : decode cX7_restAt 4 = .ok (.iload_n 1, 1) := by decide +kernel
theorem dX7_restAt_5 : decode cX7_restAt 5 = .ok (.bipush 20, 2) := by decide +kernel
theorem dX7_restAt_7 : decode cX7_restAt 7 = .ok (.if_icmp .gt 15, 3) := by decide +kernel
theorem dX7_restAt_10 : decode cX7_restAt 10 = .ok (.aload_n 0, 1) := by decide +kernel
theorem dX7_restAt_11 : decode cX7_restAt 11 = .ok (.getfield 30, 3) := by decide +kernel
theorem dX7_restAt_14 : decode cX7_restAt 14 = .ok (.getfield 51, 3) := by decide +kernel
theorem dX7_restAt_17 : decode cX7_restAt 17 = .ok (.iload_n 1, 1) := by decide +kernel
theorem dX7_restAt_18 : decode cX7_restAt 18 = .ok (.iaload, 1) := by decide +kernel
theorem dX7_restAt_19 : decode cX7_restAt 19 = .ok (.goto 4, 3) := by decide +kernel
theorem dX7_restAt_22 : decode cX7_restAt 22 = .ok (.iconst 0, 1) := by decide +kernel
theorem dX7_restAt_23 : decode cX7_restAt 23 = .ok (.ireturn, 1) := by decide +kernel
theorem dX7_lookAtAll_0 : decode cX7_lookAtAll 0 = .ok (.iconst 0, 1) := by decide +kernel
theorem dX7_lookAtAll_1 : decode cX7_lookAtAll 1 = .ok (.istore_n 1, 1) := by decide +kernel
theorem dX7_lookAtAll_2 : decode cX7_lookAtAll 2 = .ok (.iload_n 1, 1) := by decide +kernel
theorem dX7_lookAtAll_3 : decode cX7_lookAtAll 3 = .ok (.aload_n 0, 1) := by decide +kernel
theorem dX7_lookAtAll_4 : decode cX7_lookAtAll 4 = .ok (.getfield 30, 3) := by decide +kernel
theorem dX7_lookAtAll_7 : decode cX7_lookAtAll 7 = .ok (.getfield 38, 3) := by decide +kernel
theorem dX7_lookAtAll_10 : decode cX7_lookAtAll 10 = .ok (.if_icmp .ge 14, 3) := by decide +kernel
theorem dX7_lookAtAll_13 : decode cX7_lookAtAll 13 = .ok (.aload_n 0, 1) := by decide +kernel
theorem dX7_lookAtAll_14 : decode cX7_lookAtAll 14 = .ok (.iload_n 1, 1) := by decide +kernel
theorem dX7_lookAtAll_15 : decode cX7_lookAtAll 15 = .ok (.invokevirtual 53, 3) := by decide +kernel
theorem dX7_lookAtAll_18 : decode cX7_lookAtAll 18 = .ok (.iinc 1 1, 3) := by decide +kernel
theorem dX7_lookAtAll_21 : decode cX7_lookAtAll 21 = .ok (.goto (-19), 3) := by decide +kernel
theorem dX7_lookAtAll_24 : decode cX7_lookAtAll 24 = .ok (.return_, 1) := by decide +kernel
theorem dX7_lookAt_0 : decode cX7_lookAt 0 = .ok (.aload_n 0, 1) := by decide +kernel
theorem dX7_lookAt_1 : decode cX7_lookAt 1 = .ok (.getfield 34, 3) := by decide +kernel
theorem dX7_lookAt_4 : decode cX7_lookAt 4 = .ok (.getfield 57, 3) := by decide +kernel
theorem dX7_lookAt_7 : decode cX7_lookAt 7 = .ok (.iconst (-1), 1) := by decide +kernel
theorem dX7_lookAt_8 : decode cX7_lookAt 8 = .ok (.if_icmp .ne 20, 3) := by decide +kernel
theorem dX7_lookAt_11 : decode cX7_lookAt 11 = .ok (.aload_n 0, 1) := by decide +kernel
theorem dX7_lookAt_12 : decode cX7_lookAt 12 = .ok (.getfield 11, 3) := by decide +kernel
theorem dX7_lookAt_15 : decode cX7_lookAt 15 = .ok (.iload_n 1, 1) := by decide +kernel
theorem dX7_lookAt_16 : decode cX7_lookAt 16 = .ok (.iaload, 1) := by decide +kernel
theorem dX7_lookAt_17 : decode cX7_lookAt 17 = .ok (.ifCond .ne 7, 3) := by decide +kernel
theorem dX7_lookAt_20 : decode cX7_lookAt 20 = .ok (.iconst 1, 1) := by decide +kernel
theorem dX7_lookAt_21 : decode cX7_lookAt 21 = .ok (.goto 19, 3) := by decide +kernel
theorem dX7_lookAt_24 : decode cX7_lookAt 24 = .ok (.iconst 0, 1) := by decide +kernel
theorem dX7_lookAt_25 : decode cX7_lookAt 25 = .ok (.goto 15, 3) := by decide +kernel
theorem dX7_lookAt_28 : decode cX7_lookAt 28 = .ok (.aload_n 0, 1) := by decide +kernel
theorem dX7_lookAt_29 : decode cX7_lookAt 29 = .ok (.aload_n 0, 1) := by decide +kernel
theorem dX7_lookAt_30 : decode cX7_lookAt 30 = .ok (.getfield 34, 3) := by decide +kernel
theorem dX7_lookAt_33 : decode cX7_lookAt 33 = .ok (.getfield 57, 3) := by decide +kernel
theorem dX7_lookAt_36 : decode cX7_lookAt 36 = .ok (.iload_n 1, 1) := by decide +kernel
theorem dX7_lookAt_37 : decode cX7_lookAt 37 = .ok (.invokevirtual 62, 3) := by decide +kernel
theorem dX7_lookAt_40 : decode cX7_lookAt 40 = .ok (.istore_n 2, 1) := by decide +kernel
theorem dX7_lookAt_41 : decode cX7_lookAt 41 = .ok (.aload_n 0, 1) := by decide +kernel
theorem dX7_lookAt_42 : decode cX7_lookAt 42 = .ok (.iload_n 2, 1) := by decide +kernel
theorem dX7_lookAt_43 : decode cX7_lookAt 43 = .ok (.ifCond .eq 14, 3) := by decide +kernel
theorem dX7_lookAt_46 : decode cX7_lookAt 46 = .ok (.aload_n 0, 1) := by decide +kernel
theorem dX7_lookAt_47 : decode cX7_lookAt 47 = .ok (.getfield 27, 3) := by decide +kernel
theorem dX7_lookAt_50 : decode cX7_lookAt 50 = .ok (.iconst 1, 1) := by decide +kernel
theorem dX7_lookAt_51 : decode cX7_lookAt 51 = .ok (.iload_n 1, 1) := by decide +kernel
theorem dX7_lookAt_52 : decode cX7_lookAt 52 = .ok (.ishl, 1) := by decide +kernel
theorem dX7_lookAt_53 : decode cX7_lookAt 53 = .ok (.ior, 1) := by decide +kernel
theorem dX7_lookAt_54 : decode cX7_lookAt 54 = .ok (.goto 13, 3) := by decide +kernel
theorem dX7_lookAt_57 : decode cX7_lookAt 57 = .ok (.aload_n 0, 1) := by decide +kernel
theorem dX7_lookAt_58 : decode cX7_lookAt 58 = .ok (.getfield 27, 3) := by decide +kernel
theorem dX7_lookAt_61 : decode cX7_lookAt 61 = .ok (.iconst 1, 1) := by decide +kernel
theorem dX7_lookAt_62 : decode cX7_lookAt 62 = .ok (.iload_n 1, 1) := by decide +kernel
theorem dX7_lookAt_63 : decode cX7_lookAt 63 = .ok (.ishl, 1) := by decide +kernel
theorem dX7_lookAt_64 : decode cX7_lookAt 64 = .ok (.iconst (-1), 1) := by decide +kernel
theorem dX7_lookAt_65 : decode cX7_lookAt 65 = .ok (.ixor, 1) := by decide +kernel
theorem dX7_lookAt_66 : decode cX7_lookAt 66 = .ok (.iand, 1) := by decide +kernel
theorem dX7_lookAt_67 : decode cX7_lookAt 67 = .ok (.putfield 27, 3) := by decide +kernel
theorem dX7_lookAt_70 : decode cX7_lookAt 70 = .ok (.return_, 1) := by decide +kernel
theorem dX7_isHomeBy_0 : decode cX7_isHomeBy 0 = .ok (.aload_n 0, 1) := by decide +kernel
theorem dX7_isHomeBy_1 : decode cX7_isHomeBy 1 = .ok (.getfield 34, 3) := by decide +kernel
theorem dX7_isHomeBy_4 : decode cX7_isHomeBy 4 = .ok (.getfield 66, 3) := by decide +kernel
theorem dX7_isHomeBy_7 : decode cX7_isHomeBy 7 = .ok (.iconst 0, 1) := by decide +kernel
theorem dX7_isHomeBy_8 : decode cX7_isHomeBy 8 = .ok (.aload_n 0, 1) := by decide +kernel
theorem dX7_isHomeBy_9 : decode cX7_isHomeBy 9 = .ok (.getfield 11, 3) := by decide +kernel
theorem dX7_isHomeBy_12 : decode cX7_isHomeBy 12 = .ok (.iload_n 2, 1) := by decide +kernel
theorem dX7_isHomeBy_13 : decode cX7_isHomeBy 13 = .ok (.iaload, 1) := by decide +kernel
theorem dX7_isHomeBy_14 : decode cX7_isHomeBy 14 = .ok (.iastore, 1) := by decide +kernel
theorem dX7_isHomeBy_15 : decode cX7_isHomeBy 15 = .ok (.aload_n 0, 1) := by decide +kernel
theorem dX7_isHomeBy_16 : decode cX7_isHomeBy 16 = .ok (.getfield 34, 3) := by decide +kernel
theorem dX7_isHomeBy_19 : decode cX7_isHomeBy 19 = .ok (.getfield 66, 3) := by decide +kernel
theorem dX7_isHomeBy_22 : decode cX7_isHomeBy 22 = .ok (.iconst 1, 1) := by decide +kernel
theorem dX7_isHomeBy_23 : decode cX7_isHomeBy 23 = .ok (.aload_n 0, 1) := by decide +kernel
theorem dX7_isHomeBy_24 : decode cX7_isHomeBy 24 = .ok (.getfield 30, 3) := by decide +kernel
theorem dX7_isHomeBy_27 : decode cX7_isHomeBy 27 = .ok (.getfield 69, 3) := by decide +kernel
theorem dX7_isHomeBy_30 : decode cX7_isHomeBy 30 = .ok (.iload_n 2, 1) := by decide +kernel
theorem dX7_isHomeBy_31 : decode cX7_isHomeBy 31 = .ok (.iaload, 1) := by decide +kernel
theorem dX7_isHomeBy_32 : decode cX7_isHomeBy 32 = .ok (.iastore, 1) := by decide +kernel
theorem dX7_isHomeBy_33 : decode cX7_isHomeBy 33 = .ok (.aload_n 0, 1) := by decide +kernel
theorem dX7_isHomeBy_34 : decode cX7_isHomeBy 34 = .ok (.getfield 34, 3) := by decide +kernel
theorem dX7_isHomeBy_37 : decode cX7_isHomeBy 37 = .ok (.getfield 66, 3) := by decide +kernel
theorem dX7_isHomeBy_40 : decode cX7_isHomeBy 40 = .ok (.iconst 2, 1) := by decide +kernel
theorem dX7_isHomeBy_41 : decode cX7_isHomeBy 41 = .ok (.aload_n 0, 1) := by decide +kernel
theorem dX7_isHomeBy_42 : decode cX7_isHomeBy 42 = .ok (.getfield 30, 3) := by decide +kernel
theorem dX7_isHomeBy_45 : decode cX7_isHomeBy 45 = .ok (.getfield 72, 3) := by decide +kernel
theorem dX7_isHomeBy_48 : decode cX7_isHomeBy 48 = .ok (.iload_n 2, 1) := by decide +kernel
theorem dX7_isHomeBy_49 : decode cX7_isHomeBy 49 = .ok (.iaload, 1) := by decide +kernel
theorem dX7_isHomeBy_50 : decode cX7_isHomeBy 50 = .ok (.iastore, 1) := by decide +kernel
theorem dX7_isHomeBy_51 : decode cX7_isHomeBy 51 = .ok (.aload_n 0, 1) := by decide +kernel
theorem dX7_isHomeBy_52 : decode cX7_isHomeBy 52 = .ok (.getfield 34, 3) := by decide +kernel
theorem dX7_isHomeBy_55 : decode cX7_isHomeBy 55 = .ok (.getfield 66, 3) := by decide +kernel
theorem dX7_isHomeBy_58 : decode cX7_isHomeBy 58 = .ok (.iconst 3, 1) := by decide +kernel
theorem dX7_isHomeBy_59 : decode cX7_isHomeBy 59 = .ok (.aload_n 0, 1) := by decide +kernel
theorem dX7_isHomeBy_60 : decode cX7_isHomeBy 60 = .ok (.getfield 30, 3) := by decide +kernel
theorem dX7_isHomeBy_63 : decode cX7_isHomeBy 63 = .ok (.getfield 75, 3) := by decide +kernel
theorem dX7_isHomeBy_66 : decode cX7_isHomeBy 66 = .ok (.iload_n 2, 1) := by decide +kernel
theorem dX7_isHomeBy_67 : decode cX7_isHomeBy 67 = .ok (.iaload, 1) := by decide +kernel
theorem dX7_isHomeBy_68 : decode cX7_isHomeBy 68 = .ok (.iastore, 1) := by decide +kernel
theorem dX7_isHomeBy_69 : decode cX7_isHomeBy 69 = .ok (.aload_n 0, 1) := by decide +kernel
theorem dX7_isHomeBy_70 : decode cX7_isHomeBy 70 = .ok (.getfield 34, 3) := by decide +kernel
theorem dX7_isHomeBy_73 : decode cX7_isHomeBy 73 = .ok (.getfield 66, 3) := by decide +kernel
theorem dX7_isHomeBy_76 : decode cX7_isHomeBy 76 = .ok (.iconst 4, 1) := by decide +kernel
theorem dX7_isHomeBy_77 : decode cX7_isHomeBy 77 = .ok (.aload_n 0, 1) := by decide +kernel
theorem dX7_isHomeBy_78 : decode cX7_isHomeBy 78 = .ok (.getfield 24, 3) := by decide +kernel
theorem dX7_isHomeBy_81 : decode cX7_isHomeBy 81 = .ok (.iastore, 1) := by decide +kernel
theorem dX7_isHomeBy_82 : decode cX7_isHomeBy 82 = .ok (.aload_n 0, 1) := by decide +kernel
theorem dX7_isHomeBy_83 : decode cX7_isHomeBy 83 = .ok (.getfield 34, 3) := by decide +kernel
theorem dX7_isHomeBy_86 : decode cX7_isHomeBy 86 = .ok (.getfield 66, 3) := by decide +kernel
theorem dX7_isHomeBy_89 : decode cX7_isHomeBy 89 = .ok (.iconst 5, 1) := by decide +kernel
theorem dX7_isHomeBy_90 : decode cX7_isHomeBy 90 = .ok (.aload_n 0, 1) := by decide +kernel
theorem dX7_isHomeBy_91 : decode cX7_isHomeBy 91 = .ok (.getfield 30, 3) := by decide +kernel
theorem dX7_isHomeBy_94 : decode cX7_isHomeBy 94 = .ok (.getfield 78, 3) := by decide +kernel
theorem dX7_isHomeBy_97 : decode cX7_isHomeBy 97 = .ok (.iload_n 2, 1) := by decide +kernel
theorem dX7_isHomeBy_98 : decode cX7_isHomeBy 98 = .ok (.iaload, 1) := by decide +kernel
theorem dX7_isHomeBy_99 : decode cX7_isHomeBy 99 = .ok (.iastore, 1) := by decide +kernel
theorem dX7_isHomeBy_100 : decode cX7_isHomeBy 100 = .ok (.aload_n 0, 1) := by decide +kernel
theorem dX7_isHomeBy_101 : decode cX7_isHomeBy 101 = .ok (.getfield 34, 3) := by decide +kernel
theorem dX7_isHomeBy_104 : decode cX7_isHomeBy 104 = .ok (.iload_n 1, 1) := by decide +kernel
theorem dX7_isHomeBy_105 : decode cX7_isHomeBy 105 = .ok (.invokevirtual 81, 3) := by decide +kernel
theorem dX7_isHomeBy_108 : decode cX7_isHomeBy 108 = .ok (.ifCond .le 7, 3) := by decide +kernel
theorem dX7_isHomeBy_111 : decode cX7_isHomeBy 111 = .ok (.iconst 1, 1) := by decide +kernel
theorem dX7_isHomeBy_112 : decode cX7_isHomeBy 112 = .ok (.goto 4, 3) := by decide +kernel
theorem dX7_isHomeBy_115 : decode cX7_isHomeBy 115 = .ok (.iconst 0, 1) := by decide +kernel
theorem dX7_isHomeBy_116 : decode cX7_isHomeBy 116 = .ok (.ireturn, 1) := by decide +kernel
theorem dX7_isHome_0 : decode cX7_isHome 0 = .ok (.aload_n 0, 1) := by decide +kernel
theorem dX7_isHome_1 : decode cX7_isHome 1 = .ok (.getfield 27, 3) := by decide +kernel
theorem dX7_isHome_4 : decode cX7_isHome 4 = .ok (.iload_n 1, 1) := by decide +kernel
theorem dX7_isHome_5 : decode cX7_isHome 5 = .ok (.ishr, 1) := by decide +kernel
theorem dX7_isHome_6 : decode cX7_isHome 6 = .ok (.iconst 1, 1) := by decide +kernel
theorem dX7_isHome_7 : decode cX7_isHome 7 = .ok (.iand, 1) := by decide +kernel
theorem dX7_isHome_8 : decode cX7_isHome 8 = .ok (.ifCond .eq 7, 3) := by decide +kernel
theorem dX7_isHome_11 : decode cX7_isHome 11 = .ok (.iconst 1, 1) := by decide +kernel
theorem dX7_isHome_12 : decode cX7_isHome 12 = .ok (.goto 4, 3) := by decide +kernel
theorem dX7_isHome_15 : decode cX7_isHome 15 = .ok (.iconst 0, 1) := by decide +kernel
theorem dX7_isHome_16 : decode cX7_isHome 16 = .ok (.ireturn, 1) := by decide +kernel
theorem dX7_didDeed_0 : decode cX7_didDeed 0 = .ok (.aload_n 0, 1) := by decide +kernel
theorem dX7_didDeed_1 : decode cX7_didDeed 1 = .ok (.getfield 20, 3) := by decide +kernel
theorem dX7_didDeed_4 : decode cX7_didDeed 4 = .ok (.iload_n 1, 1) := by decide +kernel
theorem dX7_didDeed_5 : decode cX7_didDeed 5 = .ok (.ishr, 1) := by decide +kernel
theorem dX7_didDeed_6 : decode cX7_didDeed 6 = .ok (.iconst 1, 1) := by decide +kernel
theorem dX7_didDeed_7 : decode cX7_didDeed 7 = .ok (.iand, 1) := by decide +kernel
theorem dX7_didDeed_8 : decode cX7_didDeed 8 = .ok (.ifCond .eq 7, 3) := by decide +kernel
theorem dX7_didDeed_11 : decode cX7_didDeed 11 = .ok (.iconst 1, 1) := by decide +kernel
theorem dX7_didDeed_12 : decode cX7_didDeed 12 = .ok (.goto 4, 3) := by decide +kernel
theorem dX7_didDeed_15 : decode cX7_didDeed 15 = .ok (.iconst 0, 1) := by decide +kernel
theorem dX7_didDeed_16 : decode cX7_didDeed 16 = .ok (.ireturn, 1) := by decide +kernel
theorem dX7_markDeed_0 : decode cX7_markDeed 0 = .ok (.aload_n 0, 1) := by decide +kernel
theorem dX7_markDeed_1 : decode cX7_markDeed 1 = .ok (.dup, 1) := by decide +kernel
theorem dX7_markDeed_2 : decode cX7_markDeed 2 = .ok (.getfield 20, 3) := by decide +kernel
theorem dX7_markDeed_5 : decode cX7_markDeed 5 = .ok (.iconst 1, 1) := by decide +kernel
theorem dX7_markDeed_6 : decode cX7_markDeed 6 = .ok (.iload_n 1, 1) := by decide +kernel
theorem dX7_markDeed_7 : decode cX7_markDeed 7 = .ok (.ishl, 1) := by decide +kernel
theorem dX7_markDeed_8 : decode cX7_markDeed 8 = .ok (.ior, 1) := by decide +kernel
