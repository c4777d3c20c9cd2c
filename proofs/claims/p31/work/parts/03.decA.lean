theorem dX0_init_0 : decode cX0_init 0 = .ok (.aload_n 0, 1) := by decide +kernel
theorem dX0_init_1 : decode cX0_init 1 = .ok (.invokespecial 3, 3) := by decide +kernel
theorem dX0_init_4 : decode cX0_init 4 = .ok (.aload_n 0, 1) := by decide +kernel
theorem dX0_init_5 : decode cX0_init 5 = .ok (.bipush 40, 2) := by decide +kernel
theorem dX0_init_7 : decode cX0_init 7 = .ok (.newarray .int, 2) := by decide +kernel
theorem dX0_init_9 : decode cX0_init 9 = .ok (.putfield 9, 3) := by decide +kernel
theorem dX0_init_12 : decode cX0_init 12 = .ok (.aload_n 0, 1) := by decide +kernel
theorem dX0_init_13 : decode cX0_init 13 = .ok (.bipush 40, 2) := by decide +kernel
theorem dX0_init_15 : decode cX0_init 15 = .ok (.newarray .int, 2) := by decide +kernel
theorem dX0_init_17 : decode cX0_init 17 = .ok (.putfield 15, 3) := by decide +kernel
theorem dX0_init_20 : decode cX0_init 20 = .ok (.aload_n 0, 1) := by decide +kernel
theorem dX0_init_21 : decode cX0_init 21 = .ok (.bipush 41, 2) := by decide +kernel
theorem dX0_init_23 : decode cX0_init 23 = .ok (.newarray .int, 2) := by decide +kernel
theorem dX0_init_25 : decode cX0_init 25 = .ok (.putfield 18, 3) := by decide +kernel
theorem dX0_init_28 : decode cX0_init 28 = .ok (.return_, 1) := by decide +kernel
theorem dX0_countHours_0 : decode cX0_countHours 0 = .ok (.aload_n 0, 1) := by decide +kernel
theorem dX0_countHours_1 : decode cX0_countHours 1 = .ok (.getfield 21, 3) := by decide +kernel
theorem dX0_countHours_4 : decode cX0_countHours 4 = .ok (.ireturn, 1) := by decide +kernel
theorem dX0_gather_0 : decode cX0_gather 0 = .ok (.aload_n 0, 1) := by decide +kernel
theorem dX0_gather_1 : decode cX0_gather 1 = .ok (.iconst 0, 1) := by decide +kernel
theorem dX0_gather_2 : decode cX0_gather 2 = .ok (.putfield 21, 3) := by decide +kernel
theorem dX0_gather_5 : decode cX0_gather 5 = .ok (.iconst 0, 1) := by decide +kernel
theorem dX0_gather_6 : decode cX0_gather 6 = .ok (.istore_n 3, 1) := by decide +kernel
theorem dX0_gather_7 : decode cX0_gather 7 = .ok (.iload_n 3, 1) := by decide +kernel
theorem dX0_gather_8 : decode cX0_gather 8 = .ok (.aload_n 1, 1) := by decide +kernel
theorem dX0_gather_9 : decode cX0_gather 9 = .ok (.getfield 25, 3) := by decide +kernel
theorem dX0_gather_12 : decode cX0_gather 12 = .ok (.if_icmp .ge 35, 3) := by decide +kernel
theorem dX0_gather_15 : decode cX0_gather 15 = .ok (.aload_n 1, 1) := by decide +kernel
theorem dX0_gather_16 : decode cX0_gather 16 = .ok (.getfield 28, 3) := by decide +kernel
theorem dX0_gather_19 : decode cX0_gather 19 = .ok (.iload_n 3, 1) := by decide +kernel
theorem dX0_gather_20 : decode cX0_gather 20 = .ok (.iaload, 1) := by decide +kernel
theorem dX0_gather_21 : decode cX0_gather 21 = .ok (.iload_n 2, 1) := by decide +kernel
theorem dX0_gather_22 : decode cX0_gather 22 = .ok (.if_icmp .ne 19, 3) := by decide +kernel
theorem dX0_gather_25 : decode cX0_gather 25 = .ok (.aload_n 0, 1) := by decide +kernel
theorem dX0_gather_26 : decode cX0_gather 26 = .ok (.aload_n 1, 1) := by decide +kernel
theorem dX0_gather_27 : decode cX0_gather 27 = .ok (.getfield 31, 3) := by decide +kernel
theorem dX0_gather_30 : decode cX0_gather 30 = .ok (.iload_n 3, 1) := by decide +kernel
theorem dX0_gather_31 : decode cX0_gather 31 = .ok (.iaload, 1) := by decide +kernel
theorem dX0_gather_32 : decode cX0_gather 32 = .ok (.aload_n 1, 1) := by decide +kernel
theorem dX0_gather_33 : decode cX0_gather 33 = .ok (.getfield 32, 3) := by decide +kernel
theorem dX0_gather_36 : decode cX0_gather 36 = .ok (.iload_n 3, 1) := by decide +kernel
theorem dX0_gather_37 : decode cX0_gather 37 = .ok (.iaload, 1) := by decide +kernel
theorem dX0_gather_38 : decode cX0_gather 38 = .ok (.invokevirtual 33, 3) := by decide +kernel
theorem dX0_gather_41 : decode cX0_gather 41 = .ok (.iinc 3 1, 3) := by decide +kernel
theorem dX0_gather_44 : decode cX0_gather 44 = .ok (.goto (-37), 3) := by decide +kernel
theorem dX0_gather_47 : decode cX0_gather 47 = .ok (.return_, 1) := by decide +kernel
theorem dX0_gatherOne_0 : decode cX0_gatherOne 0 = .ok (.iconst 0, 1) := by decide +kernel
theorem dX0_gatherOne_1 : decode cX0_gatherOne 1 = .ok (.istore_n 3, 1) := by decide +kernel
theorem dX0_gatherOne_2 : decode cX0_gatherOne 2 = .ok (.iload_n 3, 1) := by decide +kernel
theorem dX0_gatherOne_3 : decode cX0_gatherOne 3 = .ok (.aload_n 0, 1) := by decide +kernel
theorem dX0_gatherOne_4 : decode cX0_gatherOne 4 = .ok (.getfield 21, 3) := by decide +kernel
theorem dX0_gatherOne_7 : decode cX0_gatherOne 7 = .ok (.if_icmp .ge 19, 3) := by decide +kernel
theorem dX0_gatherOne_10 : decode cX0_gatherOne 10 = .ok (.aload_n 0, 1) := by decide +kernel
theorem dX0_gatherOne_11 : decode cX0_gatherOne 11 = .ok (.getfield 9, 3) := by decide +kernel
theorem dX0_gatherOne_14 : decode cX0_gatherOne 14 = .ok (.iload_n 3, 1) := by decide +kernel
theorem dX0_gatherOne_15 : decode cX0_gatherOne 15 = .ok (.iaload, 1) := by decide +kernel
theorem dX0_gatherOne_16 : decode cX0_gatherOne 16 = .ok (.iload_n 1, 1) := by decide +kernel
theorem dX0_gatherOne_17 : decode cX0_gatherOne 17 = .ok (.if_icmp .ge 9, 3) := by decide +kernel
theorem dX0_gatherOne_20 : decode cX0_gatherOne 20 = .ok (.iinc 3 1, 3) := by decide +kernel
theorem dX0_gatherOne_23 : decode cX0_gatherOne 23 = .ok (.goto (-21), 3) := by decide +kernel
theorem dX0_gatherOne_26 : decode cX0_gatherOne 26 = .ok (.iload_n 3, 1) := by decide +kernel
theorem dX0_gatherOne_27 : decode cX0_gatherOne 27 = .ok (.aload_n 0, 1) := by decide +kernel
theorem dX0_gatherOne_28 : decode cX0_gatherOne 28 = .ok (.getfield 21, 3) := by decide +kernel
theorem dX0_gatherOne_31 : decode cX0_gatherOne 31 = .ok (.if_icmp .ge 24, 3) := by decide +kernel
theorem dX0_gatherOne_34 : decode cX0_gatherOne 34 = .ok (.aload_n 0, 1) := by decide +kernel
theorem dX0_gatherOne_35 : decode cX0_gatherOne 35 = .ok (.getfield 9, 3) := by decide +kernel
theorem dX0_gatherOne_38 : decode cX0_gatherOne 38 = .ok (.iload_n 3, 1) := by decide +kernel
theorem dX0_gatherOne_39 : decode cX0_gatherOne 39 = .ok (.iaload, 1) := by decide +kernel
theorem dX0_gatherOne_40 : decode cX0_gatherOne 40 = .ok (.iload_n 1, 1) := by decide +kernel
theorem dX0_gatherOne_41 : decode cX0_gatherOne 41 = .ok (.if_icmp .ne 14, 3) := by decide +kernel
theorem dX0_gatherOne_44 : decode cX0_gatherOne 44 = .ok (.aload_n 0, 1) := by decide +kernel
theorem dX0_gatherOne_45 : decode cX0_gatherOne 45 = .ok (.getfield 15, 3) := by decide +kernel
theorem dX0_gatherOne_48 : decode cX0_gatherOne 48 = .ok (.iload_n 3, 1) := by decide +kernel
theorem dX0_gatherOne_49 : decode cX0_gatherOne 49 = .ok (.dup2, 1) := by decide +kernel
theorem dX0_gatherOne_50 : decode cX0_gatherOne 50 = .ok (.iaload, 1) := by decide +kernel
theorem dX0_gatherOne_51 : decode cX0_gatherOne 51 = .ok (.iload_n 2, 1) := by decide +kernel
theorem dX0_gatherOne_52 : decode cX0_gatherOne 52 = .ok (.iadd, 1) := by decide +kernel
theorem dX0_gatherOne_53 : decode cX0_gatherOne 53 = .ok (.iastore, 1) := by decide +kernel
theorem dX0_gatherOne_54 : decode cX0_gatherOne 54 = .ok (.return_, 1) := by decide +kernel
theorem dX0_gatherOne_55 : decode cX0_gatherOne 55 = .ok (.aload_n 0, 1) := by decide +kernel
theorem dX0_gatherOne_56 : decode cX0_gatherOne 56 = .ok (.getfield 21, 3) := by decide +kernel
theorem dX0_gatherOne_59 : decode cX0_gatherOne 59 = .ok (.istore 4, 2) := by decide +kernel
theorem dX0_gatherOne_61 : decode cX0_gatherOne 61 = .ok (.iload 4, 2) := by decide +kernel
theorem dX0_gatherOne_63 : decode cX0_gatherOne 63 = .ok (.iload_n 3, 1) := by decide +kernel
theorem dX0_gatherOne_64 : decode cX0_gatherOne 64 = .ok (.if_icmp .le 41, 3) := by decide +kernel
theorem dX0_gatherOne_67 : decode cX0_gatherOne 67 = .ok (.aload_n 0, 1) := by decide +kernel
theorem dX0_gatherOne_68 : decode cX0_gatherOne 68 = .ok (.getfield 9, 3) := by decide +kernel
theorem dX0_gatherOne_71 : decode cX0_gatherOne 71 = .ok (.iload 4, 2) := by decide +kernel
theorem dX0_gatherOne_73 : decode cX0_gatherOne 73 = .ok (.aload_n 0, 1) := by decide +kernel
theorem dX0_gatherOne_74 : decode cX0_gatherOne 74 = .ok (.getfield 9, 3) := by decide +kernel
theorem dX0_gatherOne_77 : decode cX0_gatherOne 77 = .ok (.iload 4, 2) := by decide +kernel
theorem dX0_gatherOne_79 : decode cX0_gatherOne 79 = .ok (.iconst 1, 1) := by decide +kernel
theorem dX0_gatherOne_80 : decode cX0_gatherOne 80 = .ok (.isub, 1) := by decide +kernel
theorem dX0_gatherOne_81 : decode cX0_gatherOne 81 = .ok (.iaload, 1) := by decide +kernel
theorem dX0_gatherOne_82 : decode cX0_gatherOne 82 = .ok (.iastore, 1) := by decide +kernel
theorem dX0_gatherOne_83 : decode cX0_gatherOne 83 = .ok (.aload_n 0, 1) := by decide +kernel
theorem dX0_gatherOne_84 : decode cX0_gatherOne 84 = .ok (.getfield 15, 3) := by decide +kernel
theorem dX0_gatherOne_87 : decode cX0_gatherOne 87 = .ok (.iload 4, 2) := by decide +kernel
theorem dX0_gatherOne_89 : decode cX0_gatherOne 89 = .ok (.aload_n 0, 1) := by decide +kernel
theorem dX0_gatherOne_90 : decode cX0_gatherOne 90 = .ok (.getfield 15, 3) := by decide +kernel
theorem dX0_gatherOne_93 : decode cX0_gatherOne 93 = .ok (.iload 4, 2) := by decide +kernel
theorem dX0_gatherOne_95 : decode cX0_gatherOne 95 = .ok (.iconst 1, 1) := by decide +kernel
theorem dX0_gatherOne_96 : decode cX0_gatherOne 96 = .ok (.isub, 1) := by decide +kernel
theorem dX0_gatherOne_97 : decode cX0_gatherOne 97 = .ok (.iaload, 1) := by decide +kernel
theorem dX0_gatherOne_98 : decode cX0_gatherOne 98 = .ok (.iastore, 1) := by decide +kernel
theorem dX0_gatherOne_99 : decode cX0_gatherOne 99 = .ok (.iinc 4 (-1), 3) := by decide +kernel
theorem dX0_gatherOne_102 : decode cX0_gatherOne 102 = .ok (.goto (-41), 3) := by decide +kernel
theorem dX0_gatherOne_105 : decode cX0_gatherOne 105 = .ok (.aload_n 0, 1) := by decide +kernel
theorem dX0_gatherOne_106 : decode cX0_gatherOne 106 = .ok (.getfield 9, 3) := by decide +kernel
theorem dX0_gatherOne_109 : decode cX0_gatherOne 109 = .ok (.iload_n 3, 1) := by decide +kernel
theorem dX0_gatherOne_110 : decode cX0_gatherOne 110 = .ok (.iload_n 1, 1) := by decide +kernel
theorem dX0_gatherOne_111 : decode cX0_gatherOne 111 = .ok (.iastore, 1) := by decide +kernel
theorem dX0_gatherOne_112 : decode cX0_gatherOne 112 = .ok (.aload_n 0, 1) := by decide +kernel
theorem dX0_gatherOne_113 : decode cX0_gatherOne 113 = .ok (.getfield 15, 3) := by decide +kernel
theorem dX0_gatherOne_116 : decode cX0_gatherOne 116 = .ok (.iload_n 3, 1) := by decide +kernel
theorem dX0_gatherOne_117 : decode cX0_gatherOne 117 = .ok (.iload_n 2, 1) := by decide +kernel
theorem dX0_gatherOne_118 : decode cX0_gatherOne 118 = .ok (.iastore, 1) := by decide +kernel
theorem dX0_gatherOne_119 : decode cX0_gatherOne 119 = .ok (.aload_n 0, 1) := by decide +kernel
theorem dX0_gatherOne_120 : decode cX0_gatherOne 120 = .ok (.dup, 1) := by decide +kernel
theorem dX0_gatherOne_121 : decode cX0_gatherOne 121 = .ok (.getfield 21, 3) := by decide +kernel
theorem dX0_gatherOne_124 : decode cX0_gatherOne 124 = .ok (.iconst 1, 1) := by decide +kernel
theorem dX0_gatherOne_125 : decode cX0_gatherOne 125 = .ok (.iadd, 1) := by decide +kernel
theorem dX0_gatherOne_126 : decode cX0_gatherOne 126 = .ok (.putfield 21, 3) := by decide +kernel
theorem dX0_gatherOne_129 : decode cX0_gatherOne 129 = .ok (.return_, 1) := by decide +kernel
theorem dX0_mostByTable_0 : decode cX0_mostByTable 0 = .ok (.aload_n 0, 1) := by decide +kernel
theorem dX0_mostByTable_1 : decode cX0_mostByTable 1 = .ok (.getfield 18, 3) := by decide +kernel
theorem dX0_mostByTable_4 : decode cX0_mostByTable 4 = .ok (.iconst 0, 1) := by decide +kernel
theorem dX0_mostByTable_5 : decode cX0_mostByTable 5 = .ok (.iconst 0, 1) := by decide +kernel
theorem dX0_mostByTable_6 : decode cX0_mostByTable 6 = .ok (.iastore, 1) := by decide +kernel
theorem dX0_mostByTable_7 : decode cX0_mostByTable 7 = .ok (.iconst 0, 1) := by decide +kernel
theorem dX0_mostByTable_8 : decode cX0_mostByTable 8 = .ok (.istore_n 3, 1) := by decide +kernel
theorem dX0_mostByTable_9 : decode cX0_mostByTable 9 = .ok (.iload_n 3, 1) := by decide +kernel
theorem dX0_mostByTable_10 : decode cX0_mostByTable 10 = .ok (.aload_n 0, 1) := by decide +kernel
theorem dX0_mostByTable_11 : decode cX0_mostByTable 11 = .ok (.getfield 21, 3) := by decide +kernel
theorem dX0_mostByTable_14 : decode cX0_mostByTable 14 = .ok (.if_icmp .ge 95, 3) := by decide +kernel
theorem dX0_mostByTable_17 : decode cX0_mostByTable 17 = .ok (.aload_n 0, 1) := by decide +kernel
theorem dX0_mostByTable_18 : decode cX0_mostByTable 18 = .ok (.getfield 18, 3) := by decide +kernel
theorem dX0_mostByTable_21 : decode cX0_mostByTable 21 = .ok (.iload_n 3, 1) := by decide +kernel
theorem dX0_mostByTable_22 : decode cX0_mostByTable 22 = .ok (.iaload, 1) := by decide +kernel
theorem dX0_mostByTable_23 : decode cX0_mostByTable 23 = .ok (.istore 4, 2) := by decide +kernel
theorem dX0_mostByTable_25 : decode cX0_mostByTable 25 = .ok (.iconst 0, 1) := by decide +kernel
theorem dX0_mostByTable_26 : decode cX0_mostByTable 26 = .ok (.istore 5, 2) := by decide +kernel
theorem dX0_mostByTable_28 : decode cX0_mostByTable 28 = .ok (.iload_n 3, 1) := by decide +kernel
theorem dX0_mostByTable_29 : decode cX0_mostByTable 29 = .ok (.istore 6, 2) := by decide +kernel
theorem dX0_mostByTable_31 : decode cX0_mostByTable 31 = .ok (.iload 6, 2) := by decide +kernel
theorem dX0_mostByTable_33 : decode cX0_mostByTable 33 = .ok (.ifCond .lt 60, 3) := by decide +kernel
theorem dX0_mostByTable_36 : decode cX0_mostByTable 36 = .ok (.aload_n 0, 1) := by decide +kernel
theorem dX0_mostByTable_37 : decode cX0_mostByTable 37 = .ok (.getfield 9, 3) := by decide +kernel
theorem dX0_mostByTable_40 : decode cX0_mostByTable 40 = .ok (.iload_n 3, 1) := by decide +kernel
theorem dX0_mostByTable_41 : decode cX0_mostByTable 41 = .ok (.iaload, 1) := by decide +kernel
theorem dX0_mostByTable_42 : decode cX0_mostByTable 42 = .ok (.aload_n 0, 1) := by decide +kernel
theorem dX0_mostByTable_43 : decode cX0_mostByTable 43 = .ok (.getfield 9, 3) := by decide +kernel
theorem dX0_mostByTable_46 : decode cX0_mostByTable 46 = .ok (.iload 6, 2) := by decide +kernel
theorem dX0_mostByTable_48 : decode cX0_mostByTable 48 = .ok (.iaload, 1) := by decide +kernel
theorem dX0_mostByTable_49 : decode cX0_mostByTable 49 = .ok (.isub, 1) := by decide +kernel
theorem dX0_mostByTable_50 : decode cX0_mostByTable 50 = .ok (.iload_n 2, 1) := by decide +kernel
theorem dX0_mostByTable_51 : decode cX0_mostByTable 51 = .ok (.if_icmp .ge 42, 3) := by decide +kernel
theorem dX0_mostByTable_54 : decode cX0_mostByTable 54 = .ok (.iload 5, 2) := by decide +kernel
theorem dX0_mostByTable_56 : decode cX0_mostByTable 56 = .ok (.aload_n 0, 1) := by decide +kernel
theorem dX0_mostByTable_57 : decode cX0_mostByTable 57 = .ok (.getfield 15, 3) := by decide +kernel
theorem dX0_mostByTable_60 : decode cX0_mostByTable 60 = .ok (.iload 6, 2) := by decide +kernel
theorem dX0_mostByTable_62 : decode cX0_mostByTable 62 = .ok (.iaload, 1) := by decide +kernel
theorem dX0_mostByTable_63 : decode cX0_mostByTable 63 = .ok (.iadd, 1) := by decide +kernel
theorem dX0_mostByTable_64 : decode cX0_mostByTable 64 = .ok (.istore 5, 2) := by decide +kernel
theorem dX0_mostByTable_66 : decode cX0_mostByTable 66 = .ok (.iload 4, 2) := by decide +kernel
theorem dX0_mostByTable_68 : decode cX0_mostByTable 68 = .ok (.aload_n 0, 1) := by decide +kernel
theorem dX0_mostByTable_69 : decode cX0_mostByTable 69 = .ok (.getfield 18, 3) := by decide +kernel
theorem dX0_mostByTable_72 : decode cX0_mostByTable 72 = .ok (.iload 6, 2) := by decide +kernel
theorem dX0_mostByTable_74 : decode cX0_mostByTable 74 = .ok (.iaload, 1) := by decide +kernel
theorem dX0_mostByTable_75 : decode cX0_mostByTable 75 = .ok (.aload_n 1, 1) := by decide +kernel
theorem dX0_mostByTable_76 : decode cX0_mostByTable 76 = .ok (.iload 5, 2) := by decide +kernel
theorem dX0_mostByTable_78 : decode cX0_mostByTable 78 = .ok (.invokevirtual 37, 3) := by decide +kernel
theorem dX0_mostByTable_81 : decode cX0_mostByTable 81 = .ok (.iadd, 1) := by decide +kernel
theorem dX0_mostByTable_82 : decode cX0_mostByTable 82 = .ok (.invokestatic 43, 3) := by decide +kernel
theorem dX0_mostByTable_85 : decode cX0_mostByTable 85 = .ok (.istore 4, 2) := by decide +kernel
theorem dX0_mostByTable_87 : decode cX0_mostByTable 87 = .ok (.iinc 6 (-1), 3) := by decide +kernel
theorem dX0_mostByTable_90 : decode cX0_mostByTable 90 = .ok (.goto (-59), 3) := by decide +kernel
theorem dX0_mostByTable_93 : decode cX0_mostByTable 93 = .ok (.aload_n 0, 1) := by decide +kernel
theorem dX0_mostByTable_94 : decode cX0_mostByTable 94 = .ok (.getfield 18, 3) := by decide +kernel
theorem dX0_mostByTable_97 : decode cX0_mostByTable 97 = .ok (.iload_n 3, 1) := by decide +kernel
theorem dX0_mostByTable_98 : decode cX0_mostByTable 98 = .ok (.iconst 1, 1) := by decide +kernel
theorem dX0_mostByTable_99 : decode cX0_mostByTable 99 = .ok (.iadd, 1) := by decide +kernel
theorem dX0_mostByTable_100 : decode cX0_mostByTable 100 = .ok (.iload 4, 2) := by decide +kernel
theorem dX0_mostByTable_102 : decode cX0_mostByTable 102 = .ok (.iastore, 1) := by decide +kernel
theorem dX0_mostByTable_103 : decode cX0_mostByTable 103 = .ok (.iinc 3 1, 3) := by decide +kernel
theorem dX0_mostByTable_106 : decode cX0_mostByTable 106 = .ok (.goto (-97), 3) := by decide +kernel
theorem dX0_mostByTable_109 : decode cX0_mostByTable 109 = .ok (.aload_n 0, 1) := by decide +kernel
theorem dX0_mostByTable_110 : decode cX0_mostByTable 110 = .ok (.getfield 18, 3) := by decide +kernel
theorem dX0_mostByTable_113 : decode cX0_mostByTable 113 = .ok (.aload_n 0, 1) := by decide +kernel
theorem dX0_mostByTable_114 : decode cX0_mostByTable 114 = .ok (.getfield 21, 3) := by decide +kernel
theorem dX0_mostByTable_117 : decode cX0_mostByTable 117 = .ok (.iaload, 1) := by decide +kernel
theorem dX0_mostByTable_118 : decode cX0_mostByTable 118 = .ok (.ireturn, 1) := by decide +kernel
theorem dX0_mostByAllWays_0 : decode cX0_mostByAllWays 0 = .ok (.aload_n 0, 1) := by decide +kernel
theorem dX0_mostByAllWays_1 : decode cX0_mostByAllWays 1 = .ok (.aload_n 1, 1) := by decide +kernel
theorem dX0_mostByAllWays_2 : decode cX0_mostByAllWays 2 = .ok (.iload_n 2, 1) := by decide +kernel
theorem dX0_mostByAllWays_3 : decode cX0_mostByAllWays 3 = .ok (.iconst 0, 1) := by decide +kernel
theorem dX0_mostByAllWays_4 : decode cX0_mostByAllWays 4 = .ok (.invokestatic 49, 3) := by decide +kernel
theorem dX0_mostByAllWays_7 : decode cX0_mostByAllWays 7 = .ok (.ireturn, 1) := by decide +kernel
theorem dX0_mostFrom_0 : decode cX0_mostFrom 0 = .ok (.iload_n 3, 1) := by decide +kernel
theorem dX0_mostFrom_1 : decode cX0_mostFrom 1 = .ok (.aload_n 0, 1) := by decide +kernel
theorem dX0_mostFrom_2 : decode cX0_mostFrom 2 = .ok (.getfield 21, 3) := by decide +kernel
theorem dX0_mostFrom_5 : decode cX0_mostFrom 5 = .ok (.if_icmp .ge 9, 3) := by decide +kernel
theorem dX0_mostFrom_8 : decode cX0_mostFrom 8 = .ok (.iload_n 3, 1) := by decide +kernel
theorem dX0_mostFrom_9 : decode cX0_mostFrom 9 = .ok (.bipush 7, 2) := by decide +kernel
theorem dX0_mostFrom_11 : decode cX0_mostFrom 11 = .ok (.if_icmp .lt 5, 3) := by decide +kernel
theorem dX0_mostFrom_14 : decode cX0_mostFrom 14 = .ok (.iconst 0, 1) := by decide +kernel
theorem dX0_mostFrom_15 : decode cX0_mostFrom 15 = .ok (.ireturn, 1) := by decide +kernel
theorem dX0_mostFrom_16 : decode cX0_mostFrom 16 = .ok (.aload_n 0, 1) := by decide +kernel
theorem dX0_mostFrom_17 : decode cX0_mostFrom 17 = .ok (.aload_n 1, 1) := by decide +kernel
theorem dX0_mostFrom_18 : decode cX0_mostFrom 18 = .ok (.iload_n 2, 1) := by decide +kernel
theorem dX0_mostFrom_19 : decode cX0_mostFrom 19 = .ok (.iload_n 3, 1) := by decide +kernel
theorem dX0_mostFrom_20 : decode cX0_mostFrom 20 = .ok (.iconst 1, 1) := by decide +kernel
theorem dX0_mostFrom_21 : decode cX0_mostFrom 21 = .ok (.iadd, 1) := by decide +kernel
theorem dX0_mostFrom_22 : decode cX0_mostFrom 22 = .ok (.invokestatic 49, 3) := by decide +kernel
theorem dX0_mostFrom_25 : decode cX0_mostFrom 25 = .ok (.istore 4, 2) := by decide +kernel
theorem dX0_mostFrom_27 : decode cX0_mostFrom 27 = .ok (.iconst 0, 1) := by decide +kernel
theorem dX0_mostFrom_28 : decode cX0_mostFrom 28 = .ok (.istore 5, 2) := by decide +kernel
theorem dX0_mostFrom_30 : decode cX0_mostFrom 30 = .ok (.iload_n 3, 1) := by decide +kernel
theorem dX0_mostFrom_31 : decode cX0_mostFrom 31 = .ok (.istore 6, 2) := by decide +kernel
theorem dX0_mostFrom_33 : decode cX0_mostFrom 33 = .ok (.iload 6, 2) := by decide +kernel
theorem dX0_mostFrom_35 : decode cX0_mostFrom 35 = .ok (.aload_n 0, 1) := by decide +kernel
theorem dX0_mostFrom_36 : decode cX0_mostFrom 36 = .ok (.getfield 21, 3) := by decide +kernel
theorem dX0_mostFrom_39 : decode cX0_mostFrom 39 = .ok (.if_icmp .ge 63, 3) := by decide +kernel
theorem dX0_mostFrom_42 : decode cX0_mostFrom 42 = .ok (.aload_n 0, 1) := by decide +kernel
theorem dX0_mostFrom_43 : decode cX0_mostFrom 43 = .ok (.getfield 9, 3) := by decide +kernel
theorem dX0_mostFrom_46 : decode cX0_mostFrom 46 = .ok (.iload 6, 2) := by decide +kernel
theorem dX0_mostFrom_48 : decode cX0_mostFrom 48 = .ok (.iaload, 1) := by decide +kernel
theorem dX0_mostFrom_49 : decode cX0_mostFrom 49 = .ok (.aload_n 0, 1) := by decide +kernel
theorem dX0_mostFrom_50 : decode cX0_mostFrom 50 = .ok (.getfield 9, 3) := by decide +kernel
theorem dX0_mostFrom_53 : decode cX0_mostFrom 53 = .ok (.iload_n 3, 1) := by decide +kernel
theorem dX0_mostFrom_54 : decode cX0_mostFrom 54 = .ok (.iaload, 1) := by decide +kernel
theorem dX0_mostFrom_55 : decode cX0_mostFrom 55 = .ok (.isub, 1) := by decide +kernel
theorem dX0_mostFrom_56 : decode cX0_mostFrom 56 = .ok (.iload_n 2, 1) := by decide +kernel
theorem dX0_mostFrom_57 : decode cX0_mostFrom 57 = .ok (.if_icmp .ge 45, 3) := by decide +kernel
theorem dX0_mostFrom_60 : decode cX0_mostFrom 60 = .ok (.iload 5, 2) := by decide +kernel
theorem dX0_mostFrom_62 : decode cX0_mostFrom 62 = .ok (.aload_n 0, 1) := by decide +kernel
theorem dX0_mostFrom_63 : decode cX0_mostFrom 63 = .ok (.getfield 15, 3) := by decide +kernel
theorem dX0_mostFrom_66 : decode cX0_mostFrom 66 = .ok (.iload 6, 2) := by decide +kernel
theorem dX0_mostFrom_68 : decode cX0_mostFrom 68 = .ok (.iaload, 1) := by decide +kernel
theorem dX0_mostFrom_69 : decode cX0_mostFrom 69 = .ok (.iadd, 1) := by decide +kernel
theorem dX0_mostFrom_70 : decode cX0_mostFrom 70 = .ok (.istore 5, 2) := by decide +kernel
theorem dX0_mostFrom_72 : decode cX0_mostFrom 72 = .ok (.iload 4, 2) := by decide +kernel
theorem dX0_mostFrom_74 : decode cX0_mostFrom 74 = .ok (.aload_n 1, 1) := by decide +kernel
theorem dX0_mostFrom_75 : decode cX0_mostFrom 75 = .ok (.iload 5, 2) := by decide +kernel
theorem dX0_mostFrom_77 : decode cX0_mostFrom 77 = .ok (.invokevirtual 37, 3) := by decide +kernel
theorem dX0_mostFrom_80 : decode cX0_mostFrom 80 = .ok (.aload_n 0, 1) := by decide +kernel
theorem dX0_mostFrom_81 : decode cX0_mostFrom 81 = .ok (.aload_n 1, 1) := by decide +kernel
theorem dX0_mostFrom_82 : decode cX0_mostFrom 82 = .ok (.iload_n 2, 1) := by decide +kernel
theorem dX0_mostFrom_83 : decode cX0_mostFrom 83 = .ok (.iload 6, 2) := by decide +kernel
theorem dX0_mostFrom_85 : decode cX0_mostFrom 85 = .ok (.iconst 1, 1) := by decide +kernel
theorem dX0_mostFrom_86 : decode cX0_mostFrom 86 = .ok (.iadd, 1) := by decide +kernel
theorem dX0_mostFrom_87 : decode cX0_mostFrom 87 = .ok (.invokestatic 49, 3) := by decide +kernel
theorem dX0_mostFrom_90 : decode cX0_mostFrom 90 = .ok (.iadd, 1) := by decide +kernel
theorem dX0_mostFrom_91 : decode cX0_mostFrom 91 = .ok (.invokestatic 43, 3) := by decide +kernel
theorem dX0_mostFrom_94 : decode cX0_mostFrom 94 = .ok (.istore 4, 2) := by decide +kernel
theorem dX0_mostFrom_96 : decode cX0_mostFrom 96 = .ok (.iinc 6 1, 3) := by decide +kernel
theorem dX0_mostFrom_99 : decode cX0_mostFrom 99 = .ok (.goto (-66), 3) := by decide +kernel
theorem dX0_mostFrom_102 : decode cX0_mostFrom 102 = .ok (.iload 4, 2) := by decide +kernel
theorem dX0_mostFrom_104 : decode cX0_mostFrom 104 = .ok (.ireturn, 1) := by decide +kernel
theorem dX1_init_0 : decode cX1_init 0 = .ok (.aload_n 0, 1) := by decide +kernel
theorem dX1_init_1 : decode cX1_init 1 = .ok (.invokespecial 3, 3) := by decide +kernel
theorem dX1_init_4 : decode cX1_init 4 = .ok (.aload_n 0, 1) := by decide +kernel
theorem dX1_init_5 : decode cX1_init 5 = .ok (.iconst 5, 1) := by decide +kernel
theorem dX1_init_6 : decode cX1_init 6 = .ok (.newarray .int, 2) := by decide +kernel
theorem dX1_init_8 : decode cX1_init 8 = .ok (.putfield 9, 3) := by decide +kernel
theorem dX1_init_11 : decode cX1_init 11 = .ok (.aload_n 0, 1) := by decide +kernel
theorem dX1_init_12 : decode cX1_init 12 = .ok (.iconst 5, 1) := by decide +kernel
theorem dX1_init_13 : decode cX1_init 13 = .ok (.newarray .int, 2) := by decide +kernel
theorem dX1_init_15 : decode cX1_init 15 = .ok (.putfield 15, 3) := by decide +kernel
theorem dX1_init_18 : decode cX1_init 18 = .ok (.aload_n 0, 1) := by decide +kernel
theorem dX1_init_19 : decode cX1_init 19 = .ok (.iconst 5, 1) := by decide +kernel
theorem dX1_init_20 : decode cX1_init 20 = .ok (.newarray .int, 2) := by decide +kernel
theorem dX1_init_22 : decode cX1_init 22 = .ok (.putfield 18, 3) := by decide +kernel
theorem dX1_init_25 : decode cX1_init 25 = .ok (.aload_n 0, 1) := by decide +kernel
theorem dX1_init_26 : decode cX1_init 26 = .ok (.iconst 5, 1) := by decide +kernel
theorem dX1_init_27 : decode cX1_init 27 = .ok (.newarray .int, 2) := by decide +kernel
theorem dX1_init_29 : decode cX1_init 29 = .ok (.putfield 21, 3) := by decide +kernel
theorem dX1_init_32 : decode cX1_init 32 = .ok (.aload_n 0, 1) := by decide +kernel
theorem dX1_init_33 : decode cX1_init 33 = .ok (.iconst 5, 1) := by decide +kernel
theorem dX1_init_34 : decode cX1_init 34 = .ok (.newarray .int, 2) := by decide +kernel
theorem dX1_init_36 : decode cX1_init 36 = .ok (.putfield 24, 3) := by decide +kernel
theorem dX1_init_39 : decode cX1_init 39 = .ok (.aload_n 0, 1) := by decide +kernel
theorem dX1_init_40 : decode cX1_init 40 = .ok (.iconst 5, 1) := by decide +kernel
theorem dX1_init_41 : decode cX1_init 41 = .ok (.newarray .int, 2) := by decide +kernel
theorem dX1_init_43 : decode cX1_init 43 = .ok (.putfield 27, 3) := by decide +kernel
theorem dX1_init_46 : decode cX1_init 46 = .ok (.aload_n 0, 1) := by decide +kernel
theorem dX1_init_47 : decode cX1_init 47 = .ok (.iconst 5, 1) := by decide +kernel
theorem dX1_init_48 : decode cX1_init 48 = .ok (.newarray .int, 2) := by decide +kernel
theorem dX1_init_50 : decode cX1_init 50 = .ok (.putfield 30, 3) := by decide +kernel
theorem dX1_init_53 : decode cX1_init 53 = .ok (.aload_n 0, 1) := by decide +kernel
theorem dX1_init_54 : decode cX1_init 54 = .ok (.iconst 5, 1) := by decide +kernel
theorem dX1_init_55 : decode cX1_init 55 = .ok (.newarray .int, 2) := by decide +kernel
theorem dX1_init_57 : decode cX1_init 57 = .ok (.putfield 33, 3) := by decide +kernel
theorem dX1_init_60 : decode cX1_init 60 = .ok (.return_, 1) := by decide +kernel
theorem dX1_has_0 : decode cX1_has 0 = .ok (.iload_n 1, 1) := by decide +kernel
theorem dX1_has_1 : decode cX1_has 1 = .ok (.ifCond .lt 15, 3) := by decide +kernel
theorem dX1_has_4 : decode cX1_has 4 = .ok (.iload_n 1, 1) := by decide +kernel
theorem dX1_has_5 : decode cX1_has 5 = .ok (.aload_n 0, 1) := by decide +kernel
theorem dX1_has_6 : decode cX1_has 6 = .ok (.getfield 36, 3) := by decide +kernel
theorem dX1_has_9 : decode cX1_has 9 = .ok (.if_icmp .ge 7, 3) := by decide +kernel
theorem dX1_has_12 : decode cX1_has 12 = .ok (.iconst 1, 1) := by decide +kernel
theorem dX1_has_13 : decode cX1_has 13 = .ok (.goto 4, 3) := by decide +kernel
theorem dX1_has_16 : decode cX1_has 16 = .ok (.iconst 0, 1) := by decide +kernel
theorem dX1_has_17 : decode cX1_has 17 = .ok (.ireturn, 1) := by decide +kernel
theorem dX1_isFull_0 : decode cX1_isFull 0 = .ok (.aload_n 0, 1) := by decide +kernel
theorem dX1_isFull_1 : decode cX1_isFull 1 = .ok (.getfield 36, 3) := by decide +kernel
theorem dX1_isFull_4 : decode cX1_isFull 4 = .ok (.iconst 5, 1) := by decide +kernel
theorem dX1_isFull_5 : decode cX1_isFull 5 = .ok (.if_icmp .lt 7, 3) := by decide +kernel
theorem dX1_isFull_8 : decode cX1_isFull 8 = .ok (.iconst 1, 1) := by decide +kernel
theorem dX1_isFull_9 : decode cX1_isFull 9 = .ok (.goto 4, 3) := by decide +kernel
theorem dX1_isFull_12 : decode cX1_isFull 12 = .ok (.iconst 0, 1) := by decide +kernel
theorem dX1_isFull_13 : decode cX1_isFull 13 = .ok (.ireturn, 1) := by decide +kernel
theorem dX1_add_0 : decode cX1_add 0 = .ok (.aload_n 0, 1) := by decide +kernel
theorem dX1_add_1 : decode cX1_add 1 = .ok (.getfield 9, 3) := by decide +kernel
theorem dX1_add_4 : decode cX1_add 4 = .ok (.aload_n 0, 1) := by decide +kernel
theorem dX1_add_5 : decode cX1_add 5 = .ok (.getfield 36, 3) := by decide +kernel
theorem dX1_add_8 : decode cX1_add 8 = .ok (.iload_n 1, 1) := by decide +kernel
theorem dX1_add_9 : decode cX1_add 9 = .ok (.iastore, 1) := by decide +kernel
theorem dX1_add_10 : decode cX1_add 10 = .ok (.aload_n 0, 1) := by decide +kernel
theorem dX1_add_11 : decode cX1_add 11 = .ok (.getfield 15, 3) := by decide +kernel
theorem dX1_add_14 : decode cX1_add 14 = .ok (.aload_n 0, 1) := by decide +kernel
theorem dX1_add_15 : decode cX1_add 15 = .ok (.getfield 36, 3) := by decide +kernel
theorem dX1_add_18 : decode cX1_add 18 = .ok (.iload_n 2, 1) := by decide +kernel
theorem dX1_add_19 : decode cX1_add 19 = .ok (.iastore, 1) := by decide +kernel
theorem dX1_add_20 : decode cX1_add 20 = .ok (.aload_n 0, 1) := by decide +kernel
theorem dX1_add_21 : decode cX1_add 21 = .ok (.getfield 18, 3) := by decide +kernel
theorem dX1_add_24 : decode cX1_add 24 = .ok (.aload_n 0, 1) := by decide +kernel
theorem dX1_add_25 : decode cX1_add 25 = .ok (.getfield 36, 3) := by decide +kernel
theorem dX1_add_28 : decode cX1_add 28 = .ok (.iload_n 3, 1) := by decide +kernel
theorem dX1_add_29 : decode cX1_add 29 = .ok (.iastore, 1) := by decide +kernel
theorem dX1_add_30 : decode cX1_add 30 = .ok (.aload_n 0, 1) := by decide +kernel
theorem dX1_add_31 : decode cX1_add 31 = .ok (.getfield 21, 3) := by decide +kernel
theorem dX1_add_34 : decode cX1_add 34 = .ok (.aload_n 0, 1) := by decide +kernel
theorem dX1_add_35 : decode cX1_add 35 = .ok (.getfield 36, 3) := by decide +kernel
theorem dX1_add_38 : decode cX1_add 38 = .ok (.iload 4, 2) := by decide +kernel
theorem dX1_add_40 : decode cX1_add 40 = .ok (.iastore, 1) := by decide +kernel
theorem dX1_add_41 : decode cX1_add 41 = .ok (.aload_n 0, 1) := by decide +kernel
theorem dX1_add_42 : decode cX1_add 42 = .ok (.getfield 24, 3) := by decide +kernel
theorem dX1_add_45 : decode cX1_add 45 = .ok (.aload_n 0, 1) := by decide +kernel
theorem dX1_add_46 : decode cX1_add 46 = .ok (.getfield 36, 3) := by decide +kernel
theorem dX1_add_49 : decode cX1_add 49 = .ok (.iload 5, 2) := by decide +kernel
theorem dX1_add_51 : decode cX1_add 51 = .ok (.iastore, 1) := by decide +kernel
theorem dX1_add_52 : decode cX1_add 52 = .ok (.aload_n 0, 1) := by decide +kernel
theorem dX1_add_53 : decode cX1_add 53 = .ok (.getfield 27, 3) := by decide +kernel
theorem dX1_add_56 : decode cX1_add 56 = .ok (.aload_n 0, 1) := by decide +kernel
theorem dX1_add_57 : decode cX1_add 57 = .ok (.getfield 36, 3) := by decide +kernel
theorem dX1_add_60 : decode cX1_add 60 = .ok (.iload 6, 2) := by decide +kernel
theorem dX1_add_62 : decode cX1_add 62 = .ok (.iastore, 1) := by decide +kernel
theorem dX1_add_63 : decode cX1_add 63 = .ok (.aload_n 0, 1) := by decide +kernel
theorem dX1_add_64 : decode cX1_add 64 = .ok (.getfield 30, 3) := by decide +kernel
theorem dX1_add_67 : decode cX1_add 67 = .ok (.aload_n 0, 1) := by decide +kernel
theorem dX1_add_68 : decode cX1_add 68 = .ok (.getfield 36, 3) := by decide +kernel
theorem dX1_add_71 : decode cX1_add 71 = .ok (.iload 7, 2) := by decide +kernel
theorem dX1_add_73 : decode cX1_add 73 = .ok (.iastore, 1) := by decide +kernel
theorem dX1_add_74 : decode cX1_add 74 = .ok (.aload_n 0, 1) := by decide +kernel
theorem dX1_add_75 : decode cX1_add 75 = .ok (.getfield 33, 3) := by decide +kernel
theorem dX1_add_78 : decode cX1_add 78 = .ok (.aload_n 0, 1) := by decide +kernel
theorem dX1_add_79 : decode cX1_add 79 = .ok (.getfield 36, 3) := by decide +kernel
theorem dX1_add_82 : decode cX1_add 82 = .ok (.iload 5, 2) := by decide +kernel
theorem dX1_add_84 : decode cX1_add 84 = .ok (.iastore, 1) := by decide +kernel
theorem dX1_add_85 : decode cX1_add 85 = .ok (.aload_n 0, 1) := by decide +kernel
theorem dX1_add_86 : decode cX1_add 86 = .ok (.dup, 1) := by decide +kernel
theorem dX1_add_87 : decode cX1_add 87 = .ok (.getfield 36, 3) := by decide +kernel
theorem dX1_add_90 : decode cX1_add 90 = .ok (.iconst 1, 1) := by decide +kernel
theorem dX1_add_91 : decode cX1_add 91 = .ok (.iadd, 1) := by decide +kernel
theorem dX1_add_92 : decode cX1_add 92 = .ok (.putfield 36, 3) := by decide +kernel
theorem dX1_add_95 : decode cX1_add 95 = .ok (.aload_n 0, 1) := by decide +kernel
theorem dX1_add_96 : decode cX1_add 96 = .ok (.getfield 36, 3) := by decide +kernel
theorem dX1_add_99 : decode cX1_add 99 = .ok (.iconst 1, 1) := by decide +kernel
theorem dX1_add_100 : decode cX1_add 100 = .ok (.isub, 1) := by decide +kernel
theorem dX1_add_101 : decode cX1_add 101 = .ok (.ireturn, 1) := by decide +kernel
theorem dX1_isExtended_0 : decode cX1_isExtended 0 = .ok (.aload_n 0, 1) := by decide +kernel
theorem dX1_isExtended_1 : decode cX1_isExtended 1 = .ok (.getfield 33, 3) := by decide +kernel
theorem dX1_isExtended_4 : decode cX1_isExtended 4 = .ok (.iload_n 1, 1) := by decide +kernel
theorem dX1_isExtended_5 : decode cX1_isExtended 5 = .ok (.iaload, 1) := by decide +kernel
theorem dX1_isExtended_6 : decode cX1_isExtended 6 = .ok (.aload_n 0, 1) := by decide +kernel
theorem dX1_isExtended_7 : decode cX1_isExtended 7 = .ok (.getfield 24, 3) := by decide +kernel
theorem dX1_isExtended_10 : decode cX1_isExtended 10 = .ok (.iload_n 1, 1) := by decide +kernel
theorem dX1_isExtended_11 : decode cX1_isExtended 11 = .ok (.iaload, 1) := by decide +kernel
theorem dX1_isExtended_12 : decode cX1_isExtended 12 = .ok (.if_icmp .le 7, 3) := by decide +kernel
theorem dX1_isExtended_15 : decode cX1_isExtended 15 = .ok (.iconst 1, 1) := by decide +kernel
theorem dX1_isExtended_16 : decode cX1_isExtended 16 = .ok (.goto 4, 3) := by decide +kernel
theorem dX1_isExtended_19 : decode cX1_isExtended 19 = .ok (.iconst 0, 1) := by decide +kernel
theorem dX1_isExtended_20 : decode cX1_isExtended 20 = .ok (.ireturn, 1) := by decide +kernel
theorem dX1_isInTrust_0 : decode cX1_isInTrust 0 = .ok (.iload_n 2, 1) := by decide +kernel
theorem dX1_isInTrust_1 : decode cX1_isInTrust 1 = .ok (.aload_n 0, 1) := by decide +kernel
theorem dX1_isInTrust_2 : decode cX1_isInTrust 2 = .ok (.getfield 33, 3) := by decide +kernel
theorem dX1_isInTrust_5 : decode cX1_isInTrust 5 = .ok (.iload_n 1, 1) := by decide +kernel
theorem dX1_isInTrust_6 : decode cX1_isInTrust 6 = .ok (.iaload, 1) := by decide +kernel
theorem dX1_isInTrust_7 : decode cX1_isInTrust 7 = .ok (.if_icmp .gt 7, 3) := by decide +kernel
theorem dX1_isInTrust_10 : decode cX1_isInTrust 10 = .ok (.iconst 1, 1) := by decide +kernel
theorem dX1_isInTrust_11 : decode cX1_isInTrust 11 = .ok (.goto 4, 3) := by decide +kernel
theorem dX1_isInTrust_14 : decode cX1_isInTrust 14 = .ok (.iconst 0, 1) := by decide +kernel
theorem dX1_isInTrust_15 : decode cX1_isInTrust 15 = .ok (.ireturn, 1) := by decide +kernel
theorem dX1_lengthen_0 : decode cX1_lengthen 0 = .ok (.aload_n 0, 1) := by decide +kernel
theorem dX1_lengthen_1 : decode cX1_lengthen 1 = .ok (.getfield 33, 3) := by decide +kernel
theorem dX1_lengthen_4 : decode cX1_lengthen 4 = .ok (.iload_n 1, 1) := by decide +kernel
theorem dX1_lengthen_5 : decode cX1_lengthen 5 = .ok (.aload_n 0, 1) := by decide +kernel
theorem dX1_lengthen_6 : decode cX1_lengthen 6 = .ok (.getfield 24, 3) := by decide +kernel
theorem dX1_lengthen_9 : decode cX1_lengthen 9 = .ok (.iload_n 1, 1) := by decide +kernel
theorem dX1_lengthen_10 : decode cX1_lengthen 10 = .ok (.iaload, 1) := by decide +kernel
theorem dX1_lengthen_11 : decode cX1_lengthen 11 = .ok (.iload_n 2, 1) := by decide +kernel
theorem dX1_lengthen_12 : decode cX1_lengthen 12 = .ok (.iadd, 1) := by decide +kernel
theorem dX1_lengthen_13 : decode cX1_lengthen 13 = .ok (.iastore, 1) := by decide +kernel
theorem dX1_lengthen_14 : decode cX1_lengthen 14 = .ok (.aload_n 0, 1) := by decide +kernel
theorem dX1_lengthen_15 : decode cX1_lengthen 15 = .ok (.getfield 33, 3) := by decide +kernel
theorem dX1_lengthen_18 : decode cX1_lengthen 18 = .ok (.iload_n 1, 1) := by decide +kernel
theorem dX1_lengthen_19 : decode cX1_lengthen 19 = .ok (.iaload, 1) := by decide +kernel
theorem dX1_lengthen_20 : decode cX1_lengthen 20 = .ok (.ireturn, 1) := by decide +kernel
theorem dX1_principalOf_0 : decode cX1_principalOf 0 = .ok (.aload_n 0, 1) := by decide +kernel
theorem dX1_principalOf_1 : decode cX1_principalOf 1 = .ok (.getfield 9, 3) := by decide +kernel
theorem dX1_principalOf_4 : decode cX1_principalOf 4 = .ok (.iload_n 1, 1) := by decide +kernel
theorem dX1_principalOf_5 : decode cX1_principalOf 5 = .ok (.iaload, 1) := by decide +kernel
theorem dX1_principalOf_6 : decode cX1_principalOf 6 = .ok (.ireturn, 1) := by decide +kernel
theorem dX1_indexOf_0 : decode cX1_indexOf 0 = .ok (.aload_n 2, 1) := by decide +kernel
theorem dX1_indexOf_1 : decode cX1_indexOf 1 = .ok (.aload_n 0, 1) := by decide +kernel
theorem dX1_indexOf_2 : decode cX1_indexOf 2 = .ok (.getfield 15, 3) := by decide +kernel
theorem dX1_indexOf_5 : decode cX1_indexOf 5 = .ok (.iload_n 1, 1) := by decide +kernel
theorem dX1_indexOf_6 : decode cX1_indexOf 6 = .ok (.iaload, 1) := by decide +kernel
theorem dX1_indexOf_7 : decode cX1_indexOf 7 = .ok (.aload_n 0, 1) := by decide +kernel
theorem dX1_indexOf_8 : decode cX1_indexOf 8 = .ok (.getfield 18, 3) := by decide +kernel
theorem dX1_indexOf_11 : decode cX1_indexOf 11 = .ok (.iload_n 1, 1) := by decide +kernel
theorem dX1_indexOf_12 : decode cX1_indexOf 12 = .ok (.iaload, 1) := by decide +kernel
theorem dX1_indexOf_13 : decode cX1_indexOf 13 = .ok (.aload_n 0, 1) := by decide +kernel
theorem dX1_indexOf_14 : decode cX1_indexOf 14 = .ok (.getfield 21, 3) := by decide +kernel
theorem dX1_indexOf_17 : decode cX1_indexOf 17 = .ok (.iload_n 1, 1) := by decide +kernel
theorem dX1_indexOf_18 : decode cX1_indexOf 18 = .ok (.iaload, 1) := by decide +kernel
theorem dX1_indexOf_19 : decode cX1_indexOf 19 = .ok (.aload_n 0, 1) := by decide +kernel
theorem dX1_indexOf_20 : decode cX1_indexOf 20 = .ok (.getfield 24, 3) := by decide +kernel
theorem dX1_indexOf_23 : decode cX1_indexOf 23 = .ok (.iload_n 1, 1) := by decide +kernel
theorem dX1_indexOf_24 : decode cX1_indexOf 24 = .ok (.iaload, 1) := by decide +kernel
theorem dX1_indexOf_25 : decode cX1_indexOf 25 = .ok (.invokevirtual 40, 3) := by decide +kernel
theorem dX1_indexOf_28 : decode cX1_indexOf 28 = .ok (.ireturn, 1) := by decide +kernel
theorem dX1_standInOf_0 : decode cX1_standInOf 0 = .ok (.aload_n 2, 1) := by decide +kernel
theorem dX1_standInOf_1 : decode cX1_standInOf 1 = .ok (.aload_n 0, 1) := by decide +kernel
theorem dX1_standInOf_2 : decode cX1_standInOf 2 = .ok (.getfield 18, 3) := by decide +kernel
theorem dX1_standInOf_5 : decode cX1_standInOf 5 = .ok (.iload_n 1, 1) := by decide +kernel
theorem dX1_standInOf_6 : decode cX1_standInOf 6 = .ok (.iaload, 1) := by decide +kernel
theorem dX1_standInOf_7 : decode cX1_standInOf 7 = .ok (.aload_n 0, 1) := by decide +kernel
theorem dX1_standInOf_8 : decode cX1_standInOf 8 = .ok (.getfield 24, 3) := by decide +kernel
theorem dX1_standInOf_11 : decode cX1_standInOf 11 = .ok (.iload_n 1, 1) := by decide +kernel
theorem dX1_standInOf_12 : decode cX1_standInOf 12 = .ok (.iaload, 1) := by decide +kernel
theorem dX1_standInOf_13 : decode cX1_standInOf 13 = .ok (.invokevirtual 46, 3) := by decide +kernel
theorem dX1_standInOf_16 : decode cX1_standInOf 16 = .ok (.ireturn, 1) := by decide +kernel
theorem dX1_payoutAt_0 : decode cX1_payoutAt 0 = .ok (.iload_n 2, 1) := by decide +kernel
theorem dX1_payoutAt_1 : decode cX1_payoutAt 1 = .ok (.aload_n 0, 1) := by decide +kernel
theorem dX1_payoutAt_2 : decode cX1_payoutAt 2 = .ok (.getfield 27, 3) := by decide +kernel
theorem dX1_payoutAt_5 : decode cX1_payoutAt 5 = .ok (.iload_n 1, 1) := by decide +kernel
theorem dX1_payoutAt_6 : decode cX1_payoutAt 6 = .ok (.iaload, 1) := by decide +kernel
theorem dX1_payoutAt_7 : decode cX1_payoutAt 7 = .ok (.if_icmp .ge 5, 3) := by decide +kernel
theorem dX1_payoutAt_10 : decode cX1_payoutAt 10 = .ok (.iconst 0, 1) := by decide +kernel
theorem dX1_payoutAt_11 : decode cX1_payoutAt 11 = .ok (.ireturn, 1) := by decide +kernel
theorem dX1_payoutAt_12 : decode cX1_payoutAt 12 = .ok (.aload_n 0, 1) := by decide +kernel
theorem dX1_payoutAt_13 : decode cX1_payoutAt 13 = .ok (.getfield 30, 3) := by decide +kernel
theorem dX1_payoutAt_16 : decode cX1_payoutAt 16 = .ok (.iload_n 1, 1) := by decide +kernel
theorem dX1_payoutAt_17 : decode cX1_payoutAt 17 = .ok (.iaload, 1) := by decide +kernel
theorem dX1_payoutAt_18 : decode cX1_payoutAt 18 = .ok (.aload_n 0, 1) := by decide +kernel
theorem dX1_payoutAt_19 : decode cX1_payoutAt 19 = .ok (.getfield 9, 3) := by decide +kernel
theorem dX1_payoutAt_22 : decode cX1_payoutAt 22 = .ok (.iload_n 1, 1) := by decide +kernel
theorem dX1_payoutAt_23 : decode cX1_payoutAt 23 = .ok (.iaload, 1) := by decide +kernel
theorem dX1_payoutAt_24 : decode cX1_payoutAt 24 = .ok (.imul, 1) := by decide +kernel
theorem dX1_payoutAt_25 : decode cX1_payoutAt 25 = .ok (.bipush 100, 2) := by decide +kernel
theorem dX1_payoutAt_27 : decode cX1_payoutAt 27 = .ok (.idiv, 1) := by decide +kernel
theorem dX1_payoutAt_28 : decode cX1_payoutAt 28 = .ok (.istore_n 3, 1) := by decide +kernel
theorem dX1_payoutAt_29 : decode cX1_payoutAt 29 = .ok (.aload_n 0, 1) := by decide +kernel
theorem dX1_payoutAt_30 : decode cX1_payoutAt 30 = .ok (.getfield 27, 3) := by decide +kernel
theorem dX1_payoutAt_33 : decode cX1_payoutAt 33 = .ok (.iload_n 1, 1) := by decide +kernel
theorem dX1_payoutAt_34 : decode cX1_payoutAt 34 = .ok (.iaload, 1) := by decide +kernel
theorem dX1_payoutAt_35 : decode cX1_payoutAt 35 = .ok (.istore 4, 2) := by decide +kernel
theorem dX1_payoutAt_37 : decode cX1_payoutAt 37 = .ok (.iload 4, 2) := by decide +kernel
theorem dX1_payoutAt_39 : decode cX1_payoutAt 39 = .ok (.iload_n 2, 1) := by decide +kernel
theorem dX1_payoutAt_40 : decode cX1_payoutAt 40 = .ok (.if_icmp .ge 22, 3) := by decide +kernel
theorem dX1_payoutAt_43 : decode cX1_payoutAt 43 = .ok (.iload_n 3, 1) := by decide +kernel
theorem dX1_payoutAt_44 : decode cX1_payoutAt 44 = .ok (.aload_n 0, 1) := by decide +kernel
theorem dX1_payoutAt_45 : decode cX1_payoutAt 45 = .ok (.getfield 9, 3) := by decide +kernel
theorem dX1_payoutAt_48 : decode cX1_payoutAt 48 = .ok (.iload_n 1, 1) := by decide +kernel
theorem dX1_payoutAt_49 : decode cX1_payoutAt 49 = .ok (.iaload, 1) := by decide +kernel
theorem dX1_payoutAt_50 : decode cX1_payoutAt 50 = .ok (.iload_n 3, 1) := by decide +kernel
theorem dX1_payoutAt_51 : decode cX1_payoutAt 51 = .ok (.isub, 1) := by decide +kernel
theorem dX1_payoutAt_52 : decode cX1_payoutAt 52 = .ok (.iconst 2, 1) := by decide +kernel
theorem dX1_payoutAt_53 : decode cX1_payoutAt 53 = .ok (.idiv, 1) := by decide +kernel
theorem dX1_payoutAt_54 : decode cX1_payoutAt 54 = .ok (.iadd, 1) := by decide +kernel
theorem dX1_payoutAt_55 : decode cX1_payoutAt 55 = .ok (.istore_n 3, 1) := by decide +kernel
theorem dX1_payoutAt_56 : decode cX1_payoutAt 56 = .ok (.iinc 4 1, 3) := by decide +kernel
theorem dX1_payoutAt_59 : decode cX1_payoutAt 59 = .ok (.goto (-22), 3) := by decide +kernel
theorem dX1_payoutAt_62 : decode cX1_payoutAt 62 = .ok (.iload_n 3, 1) := by decide +kernel
theorem dX1_payoutAt_63 : decode cX1_payoutAt 63 = .ok (.ireturn, 1) := by decide +kernel
theorem dX1_totalPayout_0 : decode cX1_totalPayout 0 = .ok (.iconst 0, 1) := by decide +kernel
theorem dX1_totalPayout_1 : decode cX1_totalPayout 1 = .ok (.istore_n 2, 1) := by decide +kernel
theorem dX1_totalPayout_2 : decode cX1_totalPayout 2 = .ok (.iconst 0, 1) := by decide +kernel
theorem dX1_totalPayout_3 : decode cX1_totalPayout 3 = .ok (.istore_n 3, 1) := by decide +kernel
theorem dX1_totalPayout_4 : decode cX1_totalPayout 4 = .ok (.iload_n 3, 1) := by decide +kernel
theorem dX1_totalPayout_5 : decode cX1_totalPayout 5 = .ok (.aload_n 0, 1) := by decide +kernel
theorem dX1_totalPayout_6 : decode cX1_totalPayout 6 = .ok (.getfield 36, 3) := by decide +kernel
theorem dX1_totalPayout_9 : decode cX1_totalPayout 9 = .ok (.if_icmp .ge 23, 3) := by decide +kernel
theorem dX1_totalPayout_12 : decode cX1_totalPayout 12 = .ok (.iload_n 2, 1) := by decide +kernel
theorem dX1_totalPayout_13 : decode cX1_totalPayout 13 = .ok (.aload_n 0, 1) := by decide +kernel
theorem dX1_totalPayout_14 : decode cX1_totalPayout 14 = .ok (.iload_n 3, 1) := by decide +kernel
theorem dX1_totalPayout_15 : decode cX1_totalPayout 15 = .ok (.aload_n 0, 1) := by decide +kernel
theorem dX1_totalPayout_16 : decode cX1_totalPayout 16 = .ok (.iload_n 3, 1) := by decide +kernel
theorem dX1_totalPayout_17 : decode cX1_totalPayout 17 = .ok (.aload_n 1, 1) := by decide +kernel
theorem dX1_totalPayout_18 : decode cX1_totalPayout 18 = .ok (.invokevirtual 50, 3) := by decide +kernel
theorem dX1_totalPayout_21 : decode cX1_totalPayout 21 = .ok (.invokevirtual 54, 3) := by decide +kernel
theorem dX1_totalPayout_24 : decode cX1_totalPayout 24 = .ok (.iadd, 1) := by decide +kernel
theorem dX1_totalPayout_25 : decode cX1_totalPayout 25 = .ok (.istore_n 2, 1) := by decide +kernel
theorem dX1_totalPayout_26 : decode cX1_totalPayout 26 = .ok (.iinc 3 1, 3) := by decide +kernel
theorem dX1_totalPayout_29 : decode cX1_totalPayout 29 = .ok (.goto (-25), 3) := by decide +kernel
theorem dX1_totalPayout_32 : decode cX1_totalPayout 32 = .ok (.iload_n 2, 1) := by decide +kernel
theorem dX1_totalPayout_33 : decode cX1_totalPayout 33 = .ok (.ireturn, 1) := by decide +kernel
theorem dX2_init_0 : decode cX2_init 0 = .ok (.aload_n 0, 1) := by decide +kernel
theorem dX2_init_1 : decode cX2_init 1 = .ok (.invokespecial 3, 3) := by decide +kernel
theorem dX2_init_4 : decode cX2_init 4 = .ok (.aload_n 0, 1) := by decide +kernel
theorem dX2_init_5 : decode cX2_init 5 = .ok (.bipush 40, 2) := by decide +kernel
theorem dX2_init_7 : decode cX2_init 7 = .ok (.newarray .int, 2) := by decide +kernel
theorem dX2_init_9 : decode cX2_init 9 = .ok (.putfield 9, 3) := by decide +kernel
theorem dX2_init_12 : decode cX2_init 12 = .ok (.aload_n 0, 1) := by decide +kernel
theorem dX2_init_13 : decode cX2_init 13 = .ok (.bipush 40, 2) := by decide +kernel
theorem dX2_init_15 : decode cX2_init 15 = .ok (.newarray .int, 2) := by decide +kernel
theorem dX2_init_17 : decode cX2_init 17 = .ok (.putfield 15, 3) := by decide +kernel
theorem dX2_init_20 : decode cX2_init 20 = .ok (.aload_n 0, 1) := by decide +kernel
theorem dX2_init_21 : decode cX2_init 21 = .ok (.bipush 40, 2) := by decide +kernel
theorem dX2_init_23 : decode cX2_init 23 = .ok (.newarray .int, 2) := by decide +kernel
theorem dX2_init_25 : decode cX2_init 25 = .ok (.putfield 18, 3) := by decide +kernel
theorem dX2_init_28 : decode cX2_init 28 = .ok (.return_, 1) := by decide +kernel
theorem dX2_has_0 : decode cX2_has 0 = .ok (.iload_n 1, 1) := by decide +kernel
theorem dX2_has_1 : decode cX2_has 1 = .ok (.ifCond .lt 15, 3) := by decide +kernel
theorem dX2_has_4 : decode cX2_has 4 = .ok (.iload_n 1, 1) := by decide +kernel
theorem dX2_has_5 : decode cX2_has 5 = .ok (.aload_n 0, 1) := by decide +kernel
theorem dX2_has_6 : decode cX2_has 6 = .ok (.getfield 21, 3) := by decide +kernel
theorem dX2_has_9 : decode cX2_has 9 = .ok (.if_icmp .ge 7, 3) := by decide +kernel
theorem dX2_has_12 : decode cX2_has 12 = .ok (.iconst 1, 1) := by decide +kernel
theorem dX2_has_13 : decode cX2_has 13 = .ok (.goto 4, 3) := by decide +kernel
theorem dX2_has_16 : decode cX2_has 16 = .ok (.iconst 0, 1) := by decide +kernel
theorem dX2_has_17 : decode cX2_has 17 = .ok (.ireturn, 1) := by decide +kernel
theorem dX2_isFull_0 : decode cX2_isFull 0 = .ok (.aload_n 0, 1) := by decide +kernel
theorem dX2_isFull_1 : decode cX2_isFull 1 = .ok (.getfield 21, 3) := by decide +kernel
theorem dX2_isFull_4 : decode cX2_isFull 4 = .ok (.bipush 40, 2) := by decide +kernel
theorem dX2_isFull_6 : decode cX2_isFull 6 = .ok (.if_icmp .lt 7, 3) := by decide +kernel
theorem dX2_isFull_9 : decode cX2_isFull 9 = .ok (.iconst 1, 1) := by decide +kernel
theorem dX2_isFull_10 : decode cX2_isFull 10 = .ok (.goto 4, 3) := by decide +kernel
theorem dX2_isFull_13 : decode cX2_isFull 13 = .ok (.iconst 0, 1) := by decide +kernel
theorem dX2_isFull_14 : decode cX2_isFull 14 = .ok (.ireturn, 1) := by decide +kernel
theorem dX2_add_0 : decode cX2_add 0 = .ok (.aload_n 0, 1) := by decide +kernel
theorem dX2_add_1 : decode cX2_add 1 = .ok (.getfield 9, 3) := by decide +kernel
theorem dX2_add_4 : decode cX2_add 4 = .ok (.aload_n 0, 1) := by decide +kernel
theorem dX2_add_5 : decode cX2_add 5 = .ok (.getfield 21, 3) := by decide +kernel
theorem dX2_add_8 : decode cX2_add 8 = .ok (.iload_n 1, 1) := by decide +kernel
theorem dX2_add_9 : decode cX2_add 9 = .ok (.iastore, 1) := by decide +kernel
theorem dX2_add_10 : decode cX2_add 10 = .ok (.aload_n 0, 1) := by decide +kernel
theorem dX2_add_11 : decode cX2_add 11 = .ok (.getfield 15, 3) := by decide +kernel
theorem dX2_add_14 : decode cX2_add 14 = .ok (.aload_n 0, 1) := by decide +kernel
theorem dX2_add_15 : decode cX2_add 15 = .ok (.getfield 21, 3) := by decide +kernel
theorem dX2_add_18 : decode cX2_add 18 = .ok (.iload_n 2, 1) := by decide +kernel
theorem dX2_add_19 : decode cX2_add 19 = .ok (.iastore, 1) := by decide +kernel
theorem dX2_add_20 : decode cX2_add 20 = .ok (.aload_n 0, 1) := by decide +kernel
theorem dX2_add_21 : decode cX2_add 21 = .ok (.getfield 18, 3) := by decide +kernel
theorem dX2_add_24 : decode cX2_add 24 = .ok (.aload_n 0, 1) := by decide +kernel
theorem dX2_add_25 : decode cX2_add 25 = .ok (.getfield 21, 3) := by decide +kernel
theorem dX2_add_28 : decode cX2_add 28 = .ok (.iload_n 3, 1) := by decide +kernel
theorem dX2_add_29 : decode cX2_add 29 = .ok (.iastore, 1) := by decide +kernel
theorem dX2_add_30 : decode cX2_add 30 = .ok (.aload_n 0, 1) := by decide +kernel
theorem dX2_add_31 : decode cX2_add 31 = .ok (.dup, 1) := by decide +kernel
theorem dX2_add_32 : decode cX2_add 32 = .ok (.getfield 21, 3) := by decide +kernel
theorem dX2_add_35 : decode cX2_add 35 = .ok (.iconst 1, 1) := by decide +kernel
theorem dX2_add_36 : decode cX2_add 36 = .ok (.iadd, 1) := by decide +kernel
theorem dX2_add_37 : decode cX2_add 37 = .ok (.putfield 21, 3) := by decide +kernel
theorem dX2_add_40 : decode cX2_add 40 = .ok (.aload_n 0, 1) := by decide +kernel
theorem dX2_add_41 : decode cX2_add 41 = .ok (.getfield 21, 3) := by decide +kernel
theorem dX2_add_44 : decode cX2_add 44 = .ok (.iconst 1, 1) := by decide +kernel
theorem dX2_add_45 : decode cX2_add 45 = .ok (.isub, 1) := by decide +kernel
theorem dX2_add_46 : decode cX2_add 46 = .ok (.ireturn, 1) := by decide +kernel
theorem dX2_change_0 : decode cX2_change 0 = .ok (.aload_n 0, 1) := by decide +kernel
theorem dX2_change_1 : decode cX2_change 1 = .ok (.getfield 18, 3) := by decide +kernel
theorem dX2_change_4 : decode cX2_change 4 = .ok (.iload_n 1, 1) := by decide +kernel
theorem dX2_change_5 : decode cX2_change 5 = .ok (.iaload, 1) := by decide +kernel
theorem dX2_change_6 : decode cX2_change 6 = .ok (.istore_n 3, 1) := by decide +kernel
theorem dX2_change_7 : decode cX2_change 7 = .ok (.aload_n 0, 1) := by decide +kernel
theorem dX2_change_8 : decode cX2_change 8 = .ok (.getfield 18, 3) := by decide +kernel
theorem dX2_change_11 : decode cX2_change 11 = .ok (.iload_n 1, 1) := by decide +kernel
theorem dX2_change_12 : decode cX2_change 12 = .ok (.iload_n 2, 1) := by decide +kernel
theorem dX2_change_13 : decode cX2_change 13 = .ok (.iastore, 1) := by decide +kernel
theorem dX2_change_14 : decode cX2_change 14 = .ok (.iload_n 3, 1) := by decide +kernel
theorem dX2_change_15 : decode cX2_change 15 = .ok (.ireturn, 1) := by decide +kernel
theorem dX2_total_0 : decode cX2_total 0 = .ok (.aload_n 0, 1) := by decide +kernel
theorem dX2_total_1 : decode cX2_total 1 = .ok (.getfield 18, 3) := by decide +kernel
theorem dX2_total_4 : decode cX2_total 4 = .ok (.aload_n 0, 1) := by decide +kernel
theorem dX2_total_5 : decode cX2_total 5 = .ok (.getfield 21, 3) := by decide +kernel
theorem dX2_total_8 : decode cX2_total 8 = .ok (.invokestatic 25, 3) := by decide +kernel
theorem dX2_total_11 : decode cX2_total 11 = .ok (.ireturn, 1) := by decide +kernel
theorem dX2_groundOf_0 : decode cX2_groundOf 0 = .ok (.iconst 0, 1) := by decide +kernel
theorem dX2_groundOf_1 : decode cX2_groundOf 1 = .ok (.istore 4, 2) := by decide +kernel
theorem dX2_groundOf_3 : decode cX2_groundOf 3 = .ok (.iconst 0, 1) := by decide +kernel
theorem dX2_groundOf_4 : decode cX2_groundOf 4 = .ok (.istore 5, 2) := by decide +kernel
theorem dX2_groundOf_6 : decode cX2_groundOf 6 = .ok (.iload 5, 2) := by decide +kernel
theorem dX2_groundOf_8 : decode cX2_groundOf 8 = .ok (.aload_n 0, 1) := by decide +kernel
theorem dX2_groundOf_9 : decode cX2_groundOf 9 = .ok (.getfield 21, 3) := by decide +kernel
theorem dX2_groundOf_12 : decode cX2_groundOf 12 = .ok (.if_icmp .ge 54, 3) := by decide +kernel
theorem dX2_groundOf_15 : decode cX2_groundOf 15 = .ok (.aload_n 0, 1) := by decide +kernel
theorem dX2_groundOf_16 : decode cX2_groundOf 16 = .ok (.getfield 9, 3) := by decide +kernel
theorem dX2_groundOf_19 : decode cX2_groundOf 19 = .ok (.iload 5, 2) := by decide +kernel
theorem dX2_groundOf_21 : decode cX2_groundOf 21 = .ok (.iaload, 1) := by decide +kernel
theorem dX2_groundOf_22 : decode cX2_groundOf 22 = .ok (.iload_n 1, 1) := by decide +kernel
theorem dX2_groundOf_23 : decode cX2_groundOf 23 = .ok (.if_icmp .ne 37, 3) := by decide +kernel
theorem dX2_groundOf_26 : decode cX2_groundOf 26 = .ok (.aload_n 0, 1) := by decide +kernel
theorem dX2_groundOf_27 : decode cX2_groundOf 27 = .ok (.getfield 15, 3) := by decide +kernel
theorem dX2_groundOf_30 : decode cX2_groundOf 30 = .ok (.iload 5, 2) := by decide +kernel
theorem dX2_groundOf_32 : decode cX2_groundOf 32 = .ok (.iaload, 1) := by decide +kernel
theorem dX2_groundOf_33 : decode cX2_groundOf 33 = .ok (.iload_n 2, 1) := by decide +kernel
theorem dX2_groundOf_34 : decode cX2_groundOf 34 = .ok (.if_icmp .lt 26, 3) := by decide +kernel
theorem dX2_groundOf_37 : decode cX2_groundOf 37 = .ok (.aload_n 0, 1) := by decide +kernel
theorem dX2_groundOf_38 : decode cX2_groundOf 38 = .ok (.getfield 15, 3) := by decide +kernel
theorem dX2_groundOf_41 : decode cX2_groundOf 41 = .ok (.iload 5, 2) := by decide +kernel
theorem dX2_groundOf_43 : decode cX2_groundOf 43 = .ok (.iaload, 1) := by decide +kernel
theorem dX2_groundOf_44 : decode cX2_groundOf 44 = .ok (.iload_n 3, 1) := by decide +kernel
theorem dX2_groundOf_45 : decode cX2_groundOf 45 = .ok (.if_icmp .gt 15, 3) := by decide +kernel
theorem dX2_groundOf_48 : decode cX2_groundOf 48 = .ok (.iload 4, 2) := by decide +kernel
theorem dX2_groundOf_50 : decode cX2_groundOf 50 = .ok (.aload_n 0, 1) := by decide +kernel
theorem dX2_groundOf_51 : decode cX2_groundOf 51 = .ok (.getfield 18, 3) := by decide +kernel
theorem dX2_groundOf_54 : decode cX2_groundOf 54 = .ok (.iload 5, 2) := by decide +kernel
theorem dX2_groundOf_56 : decode cX2_groundOf 56 = .ok (.iaload, 1) := by decide +kernel
theorem dX2_groundOf_57 : decode cX2_groundOf 57 = .ok (.iadd, 1) := by decide +kernel
theorem dX2_groundOf_58 : decode cX2_groundOf 58 = .ok (.istore 4, 2) := by decide +kernel
theorem dX2_groundOf_60 : decode cX2_groundOf 60 = .ok (.iinc 5 1, 3) := by decide +kernel
theorem dX2_groundOf_63 : decode cX2_groundOf 63 = .ok (.goto (-57), 3) := by decide +kernel
theorem dX2_groundOf_66 : decode cX2_groundOf 66 = .ok (.iload 4, 2) := by decide +kernel
theorem dX2_groundOf_68 : decode cX2_groundOf 68 = .ok (.ireturn, 1) := by decide +kernel
theorem dX3_init_0 : decode cX3_init 0 = .ok (.aload_n 0, 1) := by decide +kernel
theorem dX3_init_1 : decode cX3_init 1 = .ok (.invokespecial 3, 3) := by decide +kernel
theorem dX3_init_4 : decode cX3_init 4 = .ok (.aload_n 0, 1) := by decide +kernel
theorem dX3_init_5 : decode cX3_init 5 = .ok (.bipush 36, 2) := by decide +kernel
theorem dX3_init_7 : decode cX3_init 7 = .ok (.newarray .int, 2) := by decide +kernel
theorem dX3_init_9 : decode cX3_init 9 = .ok (.putfield 9, 3) := by decide +kernel
theorem dX3_init_12 : decode cX3_init 12 = .ok (.aload_n 0, 1) := by decide +kernel
theorem dX3_init_13 : decode cX3_init 13 = .ok (.bipush 36, 2) := by decide +kernel
theorem dX3_init_15 : decode cX3_init 15 = .ok (.newarray .int, 2) := by decide +kernel
theorem dX3_init_17 : decode cX3_init 17 = .ok (.putfield 15, 3) := by decide +kernel
theorem dX3_init_20 : decode cX3_init 20 = .ok (.aload_n 0, 1) := by decide +kernel
theorem dX3_init_21 : decode cX3_init 21 = .ok (.iconst 3, 1) := by decide +kernel
theorem dX3_init_22 : decode cX3_init 22 = .ok (.newarray .int, 2) := by decide +kernel
theorem dX3_init_24 : decode cX3_init 24 = .ok (.putfield 18, 3) := by decide +kernel
theorem dX3_init_27 : decode cX3_init 27 = .ok (.return_, 1) := by decide +kernel
theorem dX3_isFull_0 : decode cX3_isFull 0 = .ok (.aload_n 0, 1) := by decide +kernel
theorem dX3_isFull_1 : decode cX3_isFull 1 = .ok (.getfield 18, 3) := by decide +kernel
theorem dX3_isFull_4 : decode cX3_isFull 4 = .ok (.iload_n 1, 1) := by decide +kernel
theorem dX3_isFull_5 : decode cX3_isFull 5 = .ok (.iaload, 1) := by decide +kernel
theorem dX3_isFull_6 : decode cX3_isFull 6 = .ok (.bipush 12, 2) := by decide +kernel
theorem dX3_isFull_8 : decode cX3_isFull 8 = .ok (.if_icmp .lt 7, 3) := by decide +kernel
theorem dX3_isFull_11 : decode cX3_isFull 11 = .ok (.iconst 1, 1) := by decide +kernel
theorem dX3_isFull_12 : decode cX3_isFull 12 = .ok (.goto 4, 3) := by decide +kernel
theorem dX3_isFull_15 : decode cX3_isFull 15 = .ok (.iconst 0, 1) := by decide +kernel
theorem dX3_isFull_16 : decode cX3_isFull 16 = .ok (.ireturn, 1) := by decide +kernel
theorem dX3_isEmpty_0 : decode cX3_isEmpty 0 = .ok (.aload_n 0, 1) := by decide +kernel
theorem dX3_isEmpty_1 : decode cX3_isEmpty 1 = .ok (.getfield 18, 3) := by decide +kernel
theorem dX3_isEmpty_4 : decode cX3_isEmpty 4 = .ok (.iload_n 1, 1) := by decide +kernel
theorem dX3_isEmpty_5 : decode cX3_isEmpty 5 = .ok (.iaload, 1) := by decide +kernel
theorem dX3_isEmpty_6 : decode cX3_isEmpty 6 = .ok (.ifCond .gt 7, 3) := by decide +kernel
theorem dX3_isEmpty_9 : decode cX3_isEmpty 9 = .ok (.iconst 1, 1) := by decide +kernel
theorem dX3_isEmpty_10 : decode cX3_isEmpty 10 = .ok (.goto 4, 3) := by decide +kernel
theorem dX3_isEmpty_13 : decode cX3_isEmpty 13 = .ok (.iconst 0, 1) := by decide +kernel
theorem dX3_isEmpty_14 : decode cX3_isEmpty 14 = .ok (.ireturn, 1) := by decide +kernel
theorem dX3_add_0 : decode cX3_add 0 = .ok (.iload_n 1, 1) := by decide +kernel
theorem dX3_add_1 : decode cX3_add 1 = .ok (.aload_n 0, 1) := by decide +kernel
theorem dX3_add_2 : decode cX3_add 2 = .ok (.getfield 18, 3) := by decide +kernel
theorem dX3_add_5 : decode cX3_add 5 = .ok (.iload_n 1, 1) := by decide +kernel
theorem dX3_add_6 : decode cX3_add 6 = .ok (.iaload, 1) := by decide +kernel
theorem dX3_add_7 : decode cX3_add 7 = .ok (.invokestatic 21, 3) := by decide +kernel
theorem dX3_add_10 : decode cX3_add 10 = .ok (.istore 4, 2) := by decide +kernel
theorem dX3_add_12 : decode cX3_add 12 = .ok (.aload_n 0, 1) := by decide +kernel
theorem dX3_add_13 : decode cX3_add 13 = .ok (.getfield 9, 3) := by decide +kernel
theorem dX3_add_16 : decode cX3_add 16 = .ok (.iload 4, 2) := by decide +kernel
theorem dX3_add_18 : decode cX3_add 18 = .ok (.iload_n 2, 1) := by decide +kernel
theorem dX3_add_19 : decode cX3_add 19 = .ok (.iastore, 1) := by decide +kernel
theorem dX3_add_20 : decode cX3_add 20 = .ok (.aload_n 0, 1) := by decide +kernel
theorem dX3_add_21 : decode cX3_add 21 = .ok (.getfield 15, 3) := by decide +kernel
theorem dX3_add_24 : decode cX3_add 24 = .ok (.iload 4, 2) := by decide +kernel
theorem dX3_add_26 : decode cX3_add 26 = .ok (.iload_n 3, 1) := by decide +kernel
theorem dX3_add_27 : decode cX3_add 27 = .ok (.iastore, 1) := by decide +kernel
theorem dX3_add_28 : decode cX3_add 28 = .ok (.aload_n 0, 1) := by decide +kernel
theorem dX3_add_29 : decode cX3_add 29 = .ok (.getfield 18, 3) := by decide +kernel
theorem dX3_add_32 : decode cX3_add 32 = .ok (.iload_n 1, 1) := by decide +kernel
theorem dX3_add_33 : decode cX3_add 33 = .ok (.dup2, 1) := by decide +kernel
theorem dX3_add_34 : decode cX3_add 34 = .ok (.iaload, 1) := by decide +kernel
theorem dX3_add_35 : decode cX3_add 35 = .ok (.iconst 1, 1) := by decide +kernel
theorem dX3_add_36 : decode cX3_add 36 = .ok (.iadd, 1) := by decide +kernel
theorem dX3_add_37 : decode cX3_add 37 = .ok (.iastore, 1) := by decide +kernel
theorem dX3_add_38 : decode cX3_add 38 = .ok (.aload_n 0, 1) := by decide +kernel
theorem dX3_add_39 : decode cX3_add 39 = .ok (.getfield 18, 3) := by decide +kernel
theorem dX3_add_42 : decode cX3_add 42 = .ok (.iload_n 1, 1) := by decide +kernel
theorem dX3_add_43 : decode cX3_add 43 = .ok (.iaload, 1) := by decide +kernel
theorem dX3_add_44 : decode cX3_add 44 = .ok (.ireturn, 1) := by decide +kernel
theorem dX3_slotOf_0 : decode cX3_slotOf 0 = .ok (.iload_n 0, 1) := by decide +kernel
theorem dX3_slotOf_1 : decode cX3_slotOf 1 = .ok (.bipush 12, 2) := by decide +kernel
theorem dX3_slotOf_3 : decode cX3_slotOf 3 = .ok (.imul, 1) := by decide +kernel
theorem dX3_slotOf_4 : decode cX3_slotOf 4 = .ok (.iload_n 1, 1) := by decide +kernel
theorem dX3_slotOf_5 : decode cX3_slotOf 5 = .ok (.iadd, 1) := by decide +kernel
theorem dX3_slotOf_6 : decode cX3_slotOf 6 = .ok (.ireturn, 1) := by decide +kernel
theorem dX3_payBy_0 : decode cX3_payBy 0 = .ok (.aload_n 3, 1) := by decide +kernel
theorem dX3_payBy_1 : decode cX3_payBy 1 = .ok (.iload 4, 2) := by decide +kernel
theorem dX3_payBy_3 : decode cX3_payBy 3 = .ok (.aload_n 0, 1) := by decide +kernel
theorem dX3_payBy_4 : decode cX3_payBy 4 = .ok (.getfield 15, 3) := by decide +kernel
theorem dX3_payBy_7 : decode cX3_payBy 7 = .ok (.iload_n 1, 1) := by decide +kernel
theorem dX3_payBy_8 : decode cX3_payBy 8 = .ok (.iload_n 2, 1) := by decide +kernel
theorem dX3_payBy_9 : decode cX3_payBy 9 = .ok (.invokestatic 21, 3) := by decide +kernel
theorem dX3_payBy_12 : decode cX3_payBy 12 = .ok (.iaload, 1) := by decide +kernel
theorem dX3_payBy_13 : decode cX3_payBy 13 = .ok (.invokevirtual 25, 3) := by decide +kernel
theorem dX3_payBy_16 : decode cX3_payBy 16 = .ok (.ireturn, 1) := by decide +kernel
theorem dX3_totalWeight_0 : decode cX3_totalWeight 0 = .ok (.iconst 0, 1) := by decide +kernel
theorem dX3_totalWeight_1 : decode cX3_totalWeight 1 = .ok (.istore_n 2, 1) := by decide +kernel
theorem dX3_totalWeight_2 : decode cX3_totalWeight 2 = .ok (.iconst 0, 1) := by decide +kernel
theorem dX3_totalWeight_3 : decode cX3_totalWeight 3 = .ok (.istore_n 3, 1) := by decide +kernel
theorem dX3_totalWeight_4 : decode cX3_totalWeight 4 = .ok (.iload_n 3, 1) := by decide +kernel
theorem dX3_totalWeight_5 : decode cX3_totalWeight 5 = .ok (.aload_n 0, 1) := by decide +kernel
theorem dX3_totalWeight_6 : decode cX3_totalWeight 6 = .ok (.getfield 18, 3) := by decide +kernel
theorem dX3_totalWeight_9 : decode cX3_totalWeight 9 = .ok (.iload_n 1, 1) := by decide +kernel
theorem dX3_totalWeight_10 : decode cX3_totalWeight 10 = .ok (.iaload, 1) := by decide +kernel
theorem dX3_totalWeight_11 : decode cX3_totalWeight 11 = .ok (.if_icmp .ge 22, 3) := by decide +kernel
theorem dX3_totalWeight_14 : decode cX3_totalWeight 14 = .ok (.iload_n 2, 1) := by decide +kernel
theorem dX3_totalWeight_15 : decode cX3_totalWeight 15 = .ok (.aload_n 0, 1) := by decide +kernel
theorem dX3_totalWeight_16 : decode cX3_totalWeight 16 = .ok (.getfield 9, 3) := by decide +kernel
theorem dX3_totalWeight_19 : decode cX3_totalWeight 19 = .ok (.iload_n 1, 1) := by decide +kernel
theorem dX3_totalWeight_20 : decode cX3_totalWeight 20 = .ok (.iload_n 3, 1) := by decide +kernel
theorem dX3_totalWeight_21 : decode cX3_totalWeight 21 = .ok (.invokestatic 21, 3) := by decide +kernel
theorem dX3_totalWeight_24 : decode cX3_totalWeight 24 = .ok (.iaload, 1) := by decide +kernel
theorem dX3_totalWeight_25 : decode cX3_totalWeight 25 = .ok (.iadd, 1) := by decide +kernel
theorem dX3_totalWeight_26 : decode cX3_totalWeight 26 = .ok (.istore_n 2, 1) := by decide +kernel
theorem dX3_totalWeight_27 : decode cX3_totalWeight 27 = .ok (.iinc 3 1, 3) := by decide +kernel
theorem dX3_totalWeight_30 : decode cX3_totalWeight 30 = .ok (.goto (-26), 3) := by decide +kernel
theorem dX3_totalWeight_33 : decode cX3_totalWeight 33 = .ok (.iload_n 2, 1) := by decide +kernel
theorem dX3_totalWeight_34 : decode cX3_totalWeight 34 = .ok (.ireturn, 1) := by decide +kernel
theorem dX3_weighedPay_0 : decode cX3_weighedPay 0 = .ok (.lconst 0, 1) := by decide +kernel
theorem dX3_weighedPay_1 : decode cX3_weighedPay 1 = .ok (.lstore 4, 2) := by decide +kernel
theorem dX3_weighedPay_3 : decode cX3_weighedPay 3 = .ok (.iconst 0, 1) := by decide +kernel
theorem dX3_weighedPay_4 : decode cX3_weighedPay 4 = .ok (.istore 6, 2) := by decide +kernel
theorem dX3_weighedPay_6 : decode cX3_weighedPay 6 = .ok (.iload 6, 2) := by decide +kernel
theorem dX3_weighedPay_8 : decode cX3_weighedPay 8 = .ok (.aload_n 0, 1) := by decide +kernel
theorem dX3_weighedPay_9 : decode cX3_weighedPay 9 = .ok (.getfield 18, 3) := by decide +kernel
theorem dX3_weighedPay_12 : decode cX3_weighedPay 12 = .ok (.iload_n 1, 1) := by decide +kernel
theorem dX3_weighedPay_13 : decode cX3_weighedPay 13 = .ok (.iaload, 1) := by decide +kernel
theorem dX3_weighedPay_14 : decode cX3_weighedPay 14 = .ok (.if_icmp .ge 37, 3) := by decide +kernel
theorem dX3_weighedPay_17 : decode cX3_weighedPay 17 = .ok (.lload 4, 2) := by decide +kernel
theorem dX3_weighedPay_19 : decode cX3_weighedPay 19 = .ok (.aload_n 0, 1) := by decide +kernel
theorem dX3_weighedPay_20 : decode cX3_weighedPay 20 = .ok (.getfield 9, 3) := by decide +kernel
theorem dX3_weighedPay_23 : decode cX3_weighedPay 23 = .ok (.iload_n 1, 1) := by decide +kernel
theorem dX3_weighedPay_24 : decode cX3_weighedPay 24 = .ok (.iload 6, 2) := by decide +kernel
theorem dX3_weighedPay_26 : decode cX3_weighedPay 26 = .ok (.invokestatic 21, 3) := by decide +kernel
theorem dX3_weighedPay_29 : decode cX3_weighedPay 29 = .ok (.iaload, 1) := by decide +kernel
theorem dX3_weighedPay_30 : decode cX3_weighedPay 30 = .ok (.i2l, 1) := by decide +kernel
theorem dX3_weighedPay_31 : decode cX3_weighedPay 31 = .ok (.aload_n 0, 1) := by decide +kernel
theorem dX3_weighedPay_32 : decode cX3_weighedPay 32 = .ok (.iload_n 1, 1) := by decide +kernel
theorem dX3_weighedPay_33 : decode cX3_weighedPay 33 = .ok (.iload 6, 2) := by decide +kernel
theorem dX3_weighedPay_35 : decode cX3_weighedPay 35 = .ok (.aload_n 2, 1) := by decide +kernel
theorem dX3_weighedPay_36 : decode cX3_weighedPay 36 = .ok (.iload_n 3, 1) := by decide +kernel
theorem dX3_weighedPay_37 : decode cX3_weighedPay 37 = .ok (.invokevirtual 30, 3) := by decide +kernel
theorem dX3_weighedPay_40 : decode cX3_weighedPay 40 = .ok (.i2l, 1) := by decide +kernel
theorem dX3_weighedPay_41 : decode cX3_weighedPay 41 = .ok (.lmul, 1) := by decide +kernel
theorem dX3_weighedPay_42 : decode cX3_weighedPay 42 = .ok (.ladd, 1) := by decide +kernel
theorem dX3_weighedPay_43 : decode cX3_weighedPay 43 = .ok (.lstore 4, 2) := by decide +kernel
theorem dX3_weighedPay_45 : decode cX3_weighedPay 45 = .ok (.iinc 6 1, 3) := by decide +kernel
theorem dX3_weighedPay_48 : decode cX3_weighedPay 48 = .ok (.goto (-42), 3) := by decide +kernel
theorem dX3_weighedPay_51 : decode cX3_weighedPay 51 = .ok (.lload 4, 2) := by decide +kernel
theorem dX3_weighedPay_53 : decode cX3_weighedPay 53 = .ok (.lreturn, 1) := by decide +kernel
theorem dX3_weightAbove_0 : decode cX3_weightAbove 0 = .ok (.iconst 0, 1) := by decide +kernel
theorem dX3_weightAbove_1 : decode cX3_weightAbove 1 = .ok (.istore 5, 2) := by decide +kernel
theorem dX3_weightAbove_3 : decode cX3_weightAbove 3 = .ok (.iconst 0, 1) := by decide +kernel
theorem dX3_weightAbove_4 : decode cX3_weightAbove 4 = .ok (.istore 6, 2) := by decide +kernel
theorem dX3_weightAbove_6 : decode cX3_weightAbove 6 = .ok (.iload 6, 2) := by decide +kernel
theorem dX3_weightAbove_8 : decode cX3_weightAbove 8 = .ok (.aload_n 0, 1) := by decide +kernel
theorem dX3_weightAbove_9 : decode cX3_weightAbove 9 = .ok (.getfield 18, 3) := by decide +kernel
theorem dX3_weightAbove_12 : decode cX3_weightAbove 12 = .ok (.iload_n 1, 1) := by decide +kernel
theorem dX3_weightAbove_13 : decode cX3_weightAbove 13 = .ok (.iaload, 1) := by decide +kernel
theorem dX3_weightAbove_14 : decode cX3_weightAbove 14 = .ok (.if_icmp .ge 39, 3) := by decide +kernel
theorem dX3_weightAbove_17 : decode cX3_weightAbove 17 = .ok (.aload_n 0, 1) := by decide +kernel
theorem dX3_weightAbove_18 : decode cX3_weightAbove 18 = .ok (.iload_n 1, 1) := by decide +kernel
theorem dX3_weightAbove_19 : decode cX3_weightAbove 19 = .ok (.iload 6, 2) := by decide +kernel
theorem dX3_weightAbove_21 : decode cX3_weightAbove 21 = .ok (.aload_n 2, 1) := by decide +kernel
theorem dX3_weightAbove_22 : decode cX3_weightAbove 22 = .ok (.iload_n 3, 1) := by decide +kernel
theorem dX3_weightAbove_23 : decode cX3_weightAbove 23 = .ok (.invokevirtual 30, 3) := by decide +kernel
theorem dX3_weightAbove_26 : decode cX3_weightAbove 26 = .ok (.iload 4, 2) := by decide +kernel
theorem dX3_weightAbove_28 : decode cX3_weightAbove 28 = .ok (.if_icmp .le 19, 3) := by decide +kernel
theorem dX3_weightAbove_31 : decode cX3_weightAbove 31 = .ok (.iload 5, 2) := by decide +kernel
theorem dX3_weightAbove_33 : decode cX3_weightAbove 33 = .ok (.aload_n 0, 1) := by decide +kernel
theorem dX3_weightAbove_34 : decode cX3_weightAbove 34 = .ok (.getfield 9, 3) := by decide +kernel
theorem dX3_weightAbove_37 : decode cX3_weightAbove 37 = .ok (.iload_n 1, 1) := by decide +kernel
theorem dX3_weightAbove_38 : decode cX3_weightAbove 38 = .ok (.iload 6, 2) := by decide +kernel
theorem dX3_weightAbove_40 : decode cX3_weightAbove 40 = .ok (.invokestatic 21, 3) := by decide +kernel
theorem dX3_weightAbove_43 : decode cX3_weightAbove 43 = .ok (.iaload, 1) := by decide +kernel
theorem dX3_weightAbove_44 : decode cX3_weightAbove 44 = .ok (.iadd, 1) := by decide +kernel
theorem dX3_weightAbove_45 : decode cX3_weightAbove 45 = .ok (.istore 5, 2) := by decide +kernel
theorem dX3_weightAbove_47 : decode cX3_weightAbove 47 = .ok (.iinc 6 1, 3) := by decide +kernel
theorem dX3_weightAbove_50 : decode cX3_weightAbove 50 = .ok (.goto (-44), 3) := by decide +kernel
theorem dX3_weightAbove_53 : decode cX3_weightAbove 53 = .ok (.iload 5, 2) := by decide +kernel
theorem dX3_weightAbove_55 : decode cX3_weightAbove 55 = .ok (.ireturn, 1) := by decide +kernel
theorem dX3_leastBound_0 : decode cX3_leastBound 0 = .ok (.iload 4, 2) := by decide +kernel
theorem dX3_leastBound_2 : decode cX3_leastBound 2 = .ok (.aload_n 0, 1) := by decide +kernel
theorem dX3_leastBound_3 : decode cX3_leastBound 3 = .ok (.iload_n 1, 1) := by decide +kernel
theorem dX3_leastBound_4 : decode cX3_leastBound 4 = .ok (.invokevirtual 34, 3) := by decide +kernel
theorem dX3_leastBound_7 : decode cX3_leastBound 7 = .ok (.imul, 1) := by decide +kernel
theorem dX3_leastBound_8 : decode cX3_leastBound 8 = .ok (.istore 5, 2) := by decide +kernel
theorem dX3_leastBound_10 : decode cX3_leastBound 10 = .ok (.ldc 38, 2) := by decide +kernel
theorem dX3_leastBound_12 : decode cX3_leastBound 12 = .ok (.istore 6, 2) := by decide +kernel
theorem dX3_leastBound_14 : decode cX3_leastBound 14 = .ok (.iconst 0, 1) := by decide +kernel
theorem dX3_leastBound_15 : decode cX3_leastBound 15 = .ok (.istore 7, 2) := by decide +kernel
theorem dX3_leastBound_17 : decode cX3_leastBound 17 = .ok (.iload 7, 2) := by decide +kernel
theorem dX3_leastBound_19 : decode cX3_leastBound 19 = .ok (.aload_n 0, 1) := by decide +kernel
theorem dX3_leastBound_20 : decode cX3_leastBound 20 = .ok (.getfield 18, 3) := by decide +kernel
theorem dX3_leastBound_23 : decode cX3_leastBound 23 = .ok (.iload_n 1, 1) := by decide +kernel
theorem dX3_leastBound_24 : decode cX3_leastBound 24 = .ok (.iaload, 1) := by decide +kernel
theorem dX3_leastBound_25 : decode cX3_leastBound 25 = .ok (.if_icmp .ge 48, 3) := by decide +kernel
theorem dX3_leastBound_28 : decode cX3_leastBound 28 = .ok (.aload_n 0, 1) := by decide +kernel
theorem dX3_leastBound_29 : decode cX3_leastBound 29 = .ok (.iload_n 1, 1) := by decide +kernel
theorem dX3_leastBound_30 : decode cX3_leastBound 30 = .ok (.iload 7, 2) := by decide +kernel
theorem dX3_leastBound_32 : decode cX3_leastBound 32 = .ok (.aload_n 2, 1) := by decide +kernel
theorem dX3_leastBound_33 : decode cX3_leastBound 33 = .ok (.iload_n 3, 1) := by decide +kernel
theorem dX3_leastBound_34 : decode cX3_leastBound 34 = .ok (.invokevirtual 30, 3) := by decide +kernel
theorem dX3_leastBound_37 : decode cX3_leastBound 37 = .ok (.istore 8, 2) := by decide +kernel
theorem dX3_leastBound_39 : decode cX3_leastBound 39 = .ok (.iload 8, 2) := by decide +kernel
theorem dX3_leastBound_41 : decode cX3_leastBound 41 = .ok (.iload 6, 2) := by decide +kernel
theorem dX3_leastBound_43 : decode cX3_leastBound 43 = .ok (.if_icmp .ge 24, 3) := by decide +kernel
theorem dX3_leastBound_46 : decode cX3_leastBound 46 = .ok (.bipush 100, 2) := by decide +kernel
theorem dX3_leastBound_48 : decode cX3_leastBound 48 = .ok (.aload_n 0, 1) := by decide +kernel
theorem dX3_leastBound_49 : decode cX3_leastBound 49 = .ok (.iload_n 1, 1) := by decide +kernel
theorem dX3_leastBound_50 : decode cX3_leastBound 50 = .ok (.aload_n 2, 1) := by decide +kernel
theorem dX3_leastBound_51 : decode cX3_leastBound 51 = .ok (.iload_n 3, 1) := by decide +kernel
theorem dX3_leastBound_52 : decode cX3_leastBound 52 = .ok (.iload 8, 2) := by decide +kernel
theorem dX3_leastBound_54 : decode cX3_leastBound 54 = .ok (.invokevirtual 39, 3) := by decide +kernel
theorem dX3_leastBound_57 : decode cX3_leastBound 57 = .ok (.imul, 1) := by decide +kernel
theorem dX3_leastBound_58 : decode cX3_leastBound 58 = .ok (.iload 5, 2) := by decide +kernel
theorem dX3_leastBound_60 : decode cX3_leastBound 60 = .ok (.if_icmp .gt 7, 3) := by decide +kernel
theorem dX3_leastBound_63 : decode cX3_leastBound 63 = .ok (.iload 8, 2) := by decide +kernel
theorem dX3_leastBound_65 : decode cX3_leastBound 65 = .ok (.istore 6, 2) := by decide +kernel
theorem dX3_leastBound_67 : decode cX3_leastBound 67 = .ok (.iinc 7 1, 3) := by decide +kernel
theorem dX3_leastBound_70 : decode cX3_leastBound 70 = .ok (.goto (-53), 3) := by decide +kernel
theorem dX3_leastBound_73 : decode cX3_leastBound 73 = .ok (.iload 6, 2) := by decide +kernel
theorem dX3_leastBound_75 : decode cX3_leastBound 75 = .ok (.ireturn, 1) := by decide +kernel
theorem dX3_quotientOf_0 : decode cX3_quotientOf 0 = .ok (.aload_n 0, 1) := by decide +kernel
theorem dX3_quotientOf_1 : decode cX3_quotientOf 1 = .ok (.iload_n 1, 1) := by decide +kernel
theorem dX3_quotientOf_2 : decode cX3_quotientOf 2 = .ok (.invokevirtual 34, 3) := by decide +kernel
theorem dX3_quotientOf_5 : decode cX3_quotientOf 5 = .ok (.istore 4, 2) := by decide +kernel
theorem dX3_quotientOf_7 : decode cX3_quotientOf 7 = .ok (.iload 4, 2) := by decide +kernel
theorem dX3_quotientOf_9 : decode cX3_quotientOf 9 = .ok (.iconst 1, 1) := by decide +kernel
theorem dX3_quotientOf_10 : decode cX3_quotientOf 10 = .ok (.if_icmp .ge 5, 3) := by decide +kernel
theorem dX3_quotientOf_13 : decode cX3_quotientOf 13 = .ok (.dconst 0, 1) := by decide +kernel
theorem dX3_quotientOf_14 : decode cX3_quotientOf 14 = .ok (.dreturn, 1) := by decide +kernel
theorem dX3_quotientOf_15 : decode cX3_quotientOf 15 = .ok (.aload_n 0, 1) := by decide +kernel
theorem dX3_quotientOf_16 : decode cX3_quotientOf 16 = .ok (.iload_n 1, 1) := by decide +kernel
theorem dX3_quotientOf_17 : decode cX3_quotientOf 17 = .ok (.aload_n 2, 1) := by decide +kernel
theorem dX3_quotientOf_18 : decode cX3_quotientOf 18 = .ok (.iload_n 3, 1) := by decide +kernel
theorem dX3_quotientOf_19 : decode cX3_quotientOf 19 = .ok (.invokevirtual 43, 3) := by decide +kernel
theorem dX3_quotientOf_22 : decode cX3_quotientOf 22 = .ok (.l2d, 1) := by decide +kernel
theorem dX3_quotientOf_23 : decode cX3_quotientOf 23 = .ok (.iload 4, 2) := by decide +kernel
theorem dX3_quotientOf_25 : decode cX3_quotientOf 25 = .ok (.i2d, 1) := by decide +kernel
theorem dX3_quotientOf_26 : decode cX3_quotientOf 26 = .ok (.ddiv, 1) := by decide +kernel
theorem dX3_quotientOf_27 : decode cX3_quotientOf 27 = .ok (.dreturn, 1) := by decide +kernel
theorem dX3_dearestFor_0 : decode cX3_dearestFor 0 = .ok (.iconst (-1), 1) := by decide +kernel
theorem dX3_dearestFor_1 : decode cX3_dearestFor 1 = .ok (.istore_n 3, 1) := by decide +kernel
theorem dX3_dearestFor_2 : decode cX3_dearestFor 2 = .ok (.ldc2_w 47, 3) := by decide +kernel
theorem dX3_dearestFor_5 : decode cX3_dearestFor 5 = .ok (.dstore 4, 2) := by decide +kernel
theorem dX3_dearestFor_7 : decode cX3_dearestFor 7 = .ok (.iconst 0, 1) := by decide +kernel
theorem dX3_dearestFor_8 : decode cX3_dearestFor 8 = .ok (.istore 6, 2) := by decide +kernel
theorem dX3_dearestFor_10 : decode cX3_dearestFor 10 = .ok (.iload 6, 2) := by decide +kernel
theorem dX3_dearestFor_12 : decode cX3_dearestFor 12 = .ok (.iconst 3, 1) := by decide +kernel
theorem dX3_dearestFor_13 : decode cX3_dearestFor 13 = .ok (.if_icmp .ge 46, 3) := by decide +kernel
theorem dX3_dearestFor_16 : decode cX3_dearestFor 16 = .ok (.aload_n 0, 1) := by decide +kernel
theorem dX3_dearestFor_17 : decode cX3_dearestFor 17 = .ok (.iload 6, 2) := by decide +kernel
theorem dX3_dearestFor_19 : decode cX3_dearestFor 19 = .ok (.invokevirtual 49, 3) := by decide +kernel
theorem dX3_dearestFor_22 : decode cX3_dearestFor 22 = .ok (.ifCond .eq 6, 3) := by decide +kernel
theorem dX3_dearestFor_25 : decode cX3_dearestFor 25 = .ok (.goto 28, 3) := by decide +kernel
theorem dX3_dearestFor_28 : decode cX3_dearestFor 28 = .ok (.aload_n 0, 1) := by decide +kernel
theorem dX3_dearestFor_29 : decode cX3_dearestFor 29 = .ok (.iload 6, 2) := by decide +kernel
theorem dX3_dearestFor_31 : decode cX3_dearestFor 31 = .ok (.aload_n 1, 1) := by decide +kernel
theorem dX3_dearestFor_32 : decode cX3_dearestFor 32 = .ok (.iload_n 2, 1) := by decide +kernel
theorem dX3_dearestFor_33 : decode cX3_dearestFor 33 = .ok (.invokevirtual 53, 3) := by decide +kernel
theorem dX3_dearestFor_36 : decode cX3_dearestFor 36 = .ok (.dstore 7, 2) := by decide +kernel
theorem dX3_dearestFor_38 : decode cX3_dearestFor 38 = .ok (.dload 7, 2) := by decide +kernel
theorem dX3_dearestFor_40 : decode cX3_dearestFor 40 = .ok (.dload 4, 2) := by decide +kernel
theorem dX3_dearestFor_42 : decode cX3_dearestFor 42 = .ok (.dcmp .l, 1) := by decide +kernel
theorem dX3_dearestFor_43 : decode cX3_dearestFor 43 = .ok (.ifCond .le 10, 3) := by decide +kernel
theorem dX3_dearestFor_46 : decode cX3_dearestFor 46 = .ok (.dload 7, 2) := by decide +kernel
theorem dX3_dearestFor_48 : decode cX3_dearestFor 48 = .ok (.dstore 4, 2) := by decide +kernel
theorem dX3_dearestFor_50 : decode cX3_dearestFor 50 = .ok (.iload 6, 2) := by decide +kernel
theorem dX3_dearestFor_52 : decode cX3_dearestFor 52 = .ok (.istore_n 3, 1) := by decide +kernel
theorem dX3_dearestFor_53 : decode cX3_dearestFor 53 = .ok (.iinc 6 1, 3) := by decide +kernel
theorem dX3_dearestFor_56 : decode cX3_dearestFor 56 = .ok (.goto (-46), 3) := by decide +kernel
theorem dX3_dearestFor_59 : decode cX3_dearestFor 59 = .ok (.iload_n 3, 1) := by decide +kernel
theorem dX3_dearestFor_60 : decode cX3_dearestFor 60 = .ok (.ireturn, 1) := by decide +kernel
theorem dX4_init_0 : decode cX4_init 0 = .ok (.aload_n 0, 1) := by decide +kernel
theorem dX4_init_1 : decode cX4_init 1 = .ok (.invokespecial 3, 3) := by decide +kernel
theorem dX4_init_4 : decode cX4_init 4 = .ok (.aload_n 0, 1) := by decide +kernel
theorem dX4_init_5 : decode cX4_init 5 = .ok (.bipush 30, 2) := by decide +kernel
theorem dX4_init_7 : decode cX4_init 7 = .ok (.newarray .int, 2) := by decide +kernel
theorem dX4_init_9 : decode cX4_init 9 = .ok (.putfield 9, 3) := by decide +kernel
theorem dX4_init_12 : decode cX4_init 12 = .ok (.aload_n 0, 1) := by decide +kernel
theorem dX4_init_13 : decode cX4_init 13 = .ok (.bipush 6, 2) := by decide +kernel
theorem dX4_init_15 : decode cX4_init 15 = .ok (.newarray .int, 2) := by decide +kernel
theorem dX4_init_17 : decode cX4_init 17 = .ok (.putfield 15, 3) := by decide +kernel
theorem dX4_init_20 : decode cX4_init 20 = .ok (.aload_n 0, 1) := by decide +kernel
theorem dX4_init_21 : decode cX4_init 21 = .ok (.bipush 6, 2) := by decide +kernel
theorem dX4_init_23 : decode cX4_init 23 = .ok (.newarray .int, 2) := by decide +kernel
theorem dX4_init_25 : decode cX4_init 25 = .ok (.putfield 18, 3) := by decide +kernel
theorem dX4_init_28 : decode cX4_init 28 = .ok (.aload_n 0, 1) := by decide +kernel
theorem dX4_init_29 : decode cX4_init 29 = .ok (.bipush 6, 2) := by decide +kernel
theorem dX4_init_31 : decode cX4_init 31 = .ok (.newarray .int, 2) := by decide +kernel
theorem dX4_init_33 : decode cX4_init 33 = .ok (.putfield 21, 3) := by decide +kernel
theorem dX4_init_36 : decode cX4_init 36 = .ok (.aload_n 0, 1) := by decide +kernel
theorem dX4_init_37 : decode cX4_init 37 = .ok (.bipush 6, 2) := by decide +kernel
theorem dX4_init_39 : decode cX4_init 39 = .ok (.newarray .int, 2) := by decide +kernel
theorem dX4_init_41 : decode cX4_init 41 = .ok (.putfield 24, 3) := by decide +kernel
theorem dX4_init_44 : decode cX4_init 44 = .ok (.aload_n 0, 1) := by decide +kernel
theorem dX4_init_45 : decode cX4_init 45 = .ok (.bipush 6, 2) := by decide +kernel
theorem dX4_init_47 : decode cX4_init 47 = .ok (.newarray .int, 2) := by decide +kernel
theorem dX4_init_49 : decode cX4_init 49 = .ok (.putfield 27, 3) := by decide +kernel
theorem dX4_init_52 : decode cX4_init 52 = .ok (.aload_n 0, 1) := by decide +kernel
theorem dX4_init_53 : decode cX4_init 53 = .ok (.bipush 6, 2) := by decide +kernel
theorem dX4_init_55 : decode cX4_init 55 = .ok (.newarray .int, 2) := by decide +kernel
theorem dX4_init_57 : decode cX4_init 57 = .ok (.putfield 30, 3) := by decide +kernel
theorem dX4_init_60 : decode cX4_init 60 = .ok (.return_, 1) := by decide +kernel
theorem dX4_placedBeside_0 : decode cX4_placedBeside 0 = .ok (.iconst 0, 1) := by decide +kernel
theorem dX4_placedBeside_1 : decode cX4_placedBeside 1 = .ok (.istore_n 3, 1) := by decide +kernel
theorem dX4_placedBeside_2 : decode cX4_placedBeside 2 = .ok (.iconst 0, 1) := by decide +kernel
theorem dX4_placedBeside_3 : decode cX4_placedBeside 3 = .ok (.istore 4, 2) := by decide +kernel
theorem dX4_placedBeside_5 : decode cX4_placedBeside 5 = .ok (.iload 4, 2) := by decide +kernel
theorem dX4_placedBeside_7 : decode cX4_placedBeside 7 = .ok (.bipush 6, 2) := by decide +kernel
theorem dX4_placedBeside_9 : decode cX4_placedBeside 9 = .ok (.if_icmp .ge 29, 3) := by decide +kernel
theorem dX4_placedBeside_12 : decode cX4_placedBeside 12 = .ok (.iload 4, 2) := by decide +kernel
theorem dX4_placedBeside_14 : decode cX4_placedBeside 14 = .ok (.iload_n 2, 1) := by decide +kernel
theorem dX4_placedBeside_15 : decode cX4_placedBeside 15 = .ok (.if_icmp .eq 17, 3) := by decide +kernel
theorem dX4_placedBeside_18 : decode cX4_placedBeside 18 = .ok (.iload_n 3, 1) := by decide +kernel
theorem dX4_placedBeside_19 : decode cX4_placedBeside 19 = .ok (.aload_n 0, 1) := by decide +kernel
theorem dX4_placedBeside_20 : decode cX4_placedBeside 20 = .ok (.getfield 9, 3) := by decide +kernel
theorem dX4_placedBeside_23 : decode cX4_placedBeside 23 = .ok (.iload_n 1, 1) := by decide +kernel
theorem dX4_placedBeside_24 : decode cX4_placedBeside 24 = .ok (.iload 4, 2) := by decide +kernel
theorem dX4_placedBeside_26 : decode cX4_placedBeside 26 = .ok (.invokestatic 33, 3) := by decide +kernel
theorem dX4_placedBeside_29 : decode cX4_placedBeside 29 = .ok (.iaload, 1) := by decide +kernel
theorem dX4_placedBeside_30 : decode cX4_placedBeside 30 = .ok (.iadd, 1) := by decide +kernel
theorem dX4_placedBeside_31 : decode cX4_placedBeside 31 = .ok (.istore_n 3, 1) := by decide +kernel
theorem dX4_placedBeside_32 : decode cX4_placedBeside 32 = .ok (.iinc 4 1, 3) := by decide +kernel
theorem dX4_placedBeside_35 : decode cX4_placedBeside 35 = .ok (.goto (-30), 3) := by decide +kernel
theorem dX4_placedBeside_38 : decode cX4_placedBeside 38 = .ok (.iload_n 3, 1) := by decide +kernel
theorem dX4_placedBeside_39 : decode cX4_placedBeside 39 = .ok (.ireturn, 1) := by decide +kernel
theorem dX4_place_0 : decode cX4_place 0 = .ok (.aload_n 0, 1) := by decide +kernel
theorem dX4_place_1 : decode cX4_place 1 = .ok (.getfield 9, 3) := by decide +kernel
theorem dX4_place_4 : decode cX4_place 4 = .ok (.iload_n 1, 1) := by decide +kernel
theorem dX4_place_5 : decode cX4_place 5 = .ok (.iload_n 2, 1) := by decide +kernel
theorem dX4_place_6 : decode cX4_place 6 = .ok (.invokestatic 33, 3) := by decide +kernel
theorem dX4_place_9 : decode cX4_place 9 = .ok (.iload_n 3, 1) := by decide +kernel
theorem dX4_place_10 : decode cX4_place 10 = .ok (.iastore, 1) := by decide +kernel
theorem dX4_place_11 : decode cX4_place 11 = .ok (.bipush 100, 2) := by decide +kernel
theorem dX4_place_13 : decode cX4_place 13 = .ok (.aload_n 0, 1) := by decide +kernel
theorem dX4_place_14 : decode cX4_place 14 = .ok (.iload_n 1, 1) := by decide +kernel
theorem dX4_place_15 : decode cX4_place 15 = .ok (.iconst (-1), 1) := by decide +kernel
theorem dX4_place_16 : decode cX4_place 16 = .ok (.invokevirtual 37, 3) := by decide +kernel
theorem dX4_place_19 : decode cX4_place 19 = .ok (.isub, 1) := by decide +kernel
theorem dX4_place_20 : decode cX4_place 20 = .ok (.ireturn, 1) := by decide +kernel
theorem dX4_partOf_0 : decode cX4_partOf 0 = .ok (.iload_n 0, 1) := by decide +kernel
theorem dX4_partOf_1 : decode cX4_partOf 1 = .ok (.bipush 6, 2) := by decide +kernel
theorem dX4_partOf_3 : decode cX4_partOf 3 = .ok (.imul, 1) := by decide +kernel
theorem dX4_partOf_4 : decode cX4_partOf 4 = .ok (.iload_n 1, 1) := by decide +kernel
theorem dX4_partOf_5 : decode cX4_partOf 5 = .ok (.iadd, 1) := by decide +kernel
theorem dX4_partOf_6 : decode cX4_partOf 6 = .ok (.ireturn, 1) := by decide +kernel
theorem dX4_changeRetro_0 : decode cX4_changeRetro 0 = .ok (.aload_n 0, 1) := by decide +kernel
theorem dX4_changeRetro_1 : decode cX4_changeRetro 1 = .ok (.getfield 21, 3) := by decide +kernel
theorem dX4_changeRetro_4 : decode cX4_changeRetro 4 = .ok (.iload_n 1, 1) := by decide +kernel
theorem dX4_changeRetro_5 : decode cX4_changeRetro 5 = .ok (.iaload, 1) := by decide +kernel
theorem dX4_changeRetro_6 : decode cX4_changeRetro 6 = .ok (.istore 5, 2) := by decide +kernel
theorem dX4_changeRetro_8 : decode cX4_changeRetro 8 = .ok (.aload_n 0, 1) := by decide +kernel
theorem dX4_changeRetro_9 : decode cX4_changeRetro 9 = .ok (.getfield 15, 3) := by decide +kernel
theorem dX4_changeRetro_12 : decode cX4_changeRetro 12 = .ok (.iload_n 1, 1) := by decide +kernel
theorem dX4_changeRetro_13 : decode cX4_changeRetro 13 = .ok (.iload_n 2, 1) := by decide +kernel
theorem dX4_changeRetro_14 : decode cX4_changeRetro 14 = .ok (.iastore, 1) := by decide +kernel
theorem dX4_changeRetro_15 : decode cX4_changeRetro 15 = .ok (.aload_n 0, 1) := by decide +kernel
theorem dX4_changeRetro_16 : decode cX4_changeRetro 16 = .ok (.getfield 18, 3) := by decide +kernel
theorem dX4_changeRetro_19 : decode cX4_changeRetro 19 = .ok (.iload_n 1, 1) := by decide +kernel
theorem dX4_changeRetro_20 : decode cX4_changeRetro 20 = .ok (.iload_n 3, 1) := by decide +kernel
theorem dX4_changeRetro_21 : decode cX4_changeRetro 21 = .ok (.iastore, 1) := by decide +kernel
theorem dX4_changeRetro_22 : decode cX4_changeRetro 22 = .ok (.aload_n 0, 1) := by decide +kernel
theorem dX4_changeRetro_23 : decode cX4_changeRetro 23 = .ok (.getfield 21, 3) := by decide +kernel
theorem dX4_changeRetro_26 : decode cX4_changeRetro 26 = .ok (.iload_n 1, 1) := by decide +kernel
theorem dX4_changeRetro_27 : decode cX4_changeRetro 27 = .ok (.iload 4, 2) := by decide +kernel
theorem dX4_changeRetro_29 : decode cX4_changeRetro 29 = .ok (.iastore, 1) := by decide +kernel
theorem dX4_changeRetro_30 : decode cX4_changeRetro 30 = .ok (.iload 5, 2) := by decide +kernel
theorem dX4_changeRetro_32 : decode cX4_changeRetro 32 = .ok (.ireturn, 1) := by decide +kernel
theorem dX4_bear_0 : decode cX4_bear 0 = .ok (.iconst 0, 1) := by decide +kernel
theorem dX4_bear_1 : decode cX4_bear 1 = .ok (.istore_n 2, 1) := by decide +kernel
theorem dX4_bear_2 : decode cX4_bear 2 = .ok (.iload_n 2, 1) := by decide +kernel
theorem dX4_bear_3 : decode cX4_bear 3 = .ok (.bipush 6, 2) := by decide +kernel
theorem dX4_bear_5 : decode cX4_bear 5 = .ok (.if_icmp .ge 67, 3) := by decide +kernel
theorem dX4_bear_8 : decode cX4_bear 8 = .ok (.aload_n 0, 1) := by decide +kernel
theorem dX4_bear_9 : decode cX4_bear 9 = .ok (.getfield 24, 3) := by decide +kernel
theorem dX4_bear_12 : decode cX4_bear 12 = .ok (.iload_n 2, 1) := by decide +kernel
theorem dX4_bear_13 : decode cX4_bear 13 = .ok (.iload_n 2, 1) := by decide +kernel
theorem dX4_bear_14 : decode cX4_bear 14 = .ok (.ifCond .ne 10, 3) := by decide +kernel
theorem dX4_bear_17 : decode cX4_bear 17 = .ok (.aload_n 1, 1) := by decide +kernel
theorem dX4_bear_18 : decode cX4_bear 18 = .ok (.invokevirtual 40, 3) := by decide +kernel
theorem dX4_bear_21 : decode cX4_bear 21 = .ok (.goto 4, 3) := by decide +kernel
theorem dX4_bear_24 : decode cX4_bear 24 = .ok (.iconst 0, 1) := by decide +kernel
theorem dX4_bear_25 : decode cX4_bear 25 = .ok (.iastore, 1) := by decide +kernel
theorem dX4_bear_26 : decode cX4_bear 26 = .ok (.iconst 0, 1) := by decide +kernel
theorem dX4_bear_27 : decode cX4_bear 27 = .ok (.istore_n 3, 1) := by decide +kernel
theorem dX4_bear_28 : decode cX4_bear 28 = .ok (.iload_n 3, 1) := by decide +kernel
theorem dX4_bear_29 : decode cX4_bear 29 = .ok (.aload_n 1, 1) := by decide +kernel
theorem dX4_bear_30 : decode cX4_bear 30 = .ok (.getfield 46, 3) := by decide +kernel
theorem dX4_bear_33 : decode cX4_bear 33 = .ok (.if_icmp .ge 33, 3) := by decide +kernel
theorem dX4_bear_36 : decode cX4_bear 36 = .ok (.aload_n 0, 1) := by decide +kernel
theorem dX4_bear_37 : decode cX4_bear 37 = .ok (.getfield 24, 3) := by decide +kernel
theorem dX4_bear_40 : decode cX4_bear 40 = .ok (.iload_n 2, 1) := by decide +kernel
theorem dX4_bear_41 : decode cX4_bear 41 = .ok (.dup2, 1) := by decide +kernel
theorem dX4_bear_42 : decode cX4_bear 42 = .ok (.iaload, 1) := by decide +kernel
theorem dX4_bear_43 : decode cX4_bear 43 = .ok (.aload_n 1, 1) := by decide +kernel
theorem dX4_bear_44 : decode cX4_bear 44 = .ok (.iload_n 3, 1) := by decide +kernel
theorem dX4_bear_45 : decode cX4_bear 45 = .ok (.aload_n 0, 1) := by decide +kernel
theorem dX4_bear_46 : decode cX4_bear 46 = .ok (.getfield 9, 3) := by decide +kernel
theorem dX4_bear_49 : decode cX4_bear 49 = .ok (.iload_n 3, 1) := by decide +kernel
theorem dX4_bear_50 : decode cX4_bear 50 = .ok (.iload_n 2, 1) := by decide +kernel
theorem dX4_bear_51 : decode cX4_bear 51 = .ok (.invokestatic 33, 3) := by decide +kernel
theorem dX4_bear_54 : decode cX4_bear 54 = .ok (.iaload, 1) := by decide +kernel
theorem dX4_bear_55 : decode cX4_bear 55 = .ok (.invokevirtual 50, 3) := by decide +kernel
theorem dX4_bear_58 : decode cX4_bear 58 = .ok (.iadd, 1) := by decide +kernel
theorem dX4_bear_59 : decode cX4_bear 59 = .ok (.iastore, 1) := by decide +kernel
theorem dX4_bear_60 : decode cX4_bear 60 = .ok (.iinc 3 1, 3) := by decide +kernel
theorem dX4_bear_63 : decode cX4_bear 63 = .ok (.goto (-35), 3) := by decide +kernel
theorem dX4_bear_66 : decode cX4_bear 66 = .ok (.iinc 2 1, 3) := by decide +kernel
theorem dX4_bear_69 : decode cX4_bear 69 = .ok (.goto (-67), 3) := by decide +kernel
theorem dX4_bear_72 : decode cX4_bear 72 = .ok (.return_, 1) := by decide +kernel
theorem dX4_totalBorne_0 : decode cX4_totalBorne 0 = .ok (.aload_n 0, 1) := by decide +kernel
theorem dX4_totalBorne_1 : decode cX4_totalBorne 1 = .ok (.getfield 24, 3) := by decide +kernel
theorem dX4_totalBorne_4 : decode cX4_totalBorne 4 = .ok (.bipush 6, 2) := by decide +kernel
theorem dX4_totalBorne_6 : decode cX4_totalBorne 6 = .ok (.invokestatic 53, 3) := by decide +kernel
theorem dX4_totalBorne_9 : decode cX4_totalBorne 9 = .ok (.ireturn, 1) := by decide +kernel
theorem dX4_spin_0 : decode cX4_spin 0 = .ok (.aload_n 0, 1) := by decide +kernel
theorem dX4_spin_1 : decode cX4_spin 1 = .ok (.getfield 24, 3) := by decide +kernel
theorem dX4_spin_4 : decode cX4_spin 4 = .ok (.iconst 0, 1) := by decide +kernel
theorem dX4_spin_5 : decode cX4_spin 5 = .ok (.aload_n 0, 1) := by decide +kernel
theorem dX4_spin_6 : decode cX4_spin 6 = .ok (.getfield 27, 3) := by decide +kernel
theorem dX4_spin_9 : decode cX4_spin 9 = .ok (.iconst 0, 1) := by decide +kernel
theorem dX4_spin_10 : decode cX4_spin 10 = .ok (.bipush 6, 2) := by decide +kernel
theorem dX4_spin_12 : decode cX4_spin 12 = .ok (.invokestatic 57, 3) := by decide +kernel
theorem dX4_spin_15 : decode cX4_spin 15 = .ok (.iconst 1, 1) := by decide +kernel
theorem dX4_spin_16 : decode cX4_spin 16 = .ok (.istore_n 1, 1) := by decide +kernel
theorem dX4_spin_17 : decode cX4_spin 17 = .ok (.iconst 0, 1) := by decide +kernel
theorem dX4_spin_18 : decode cX4_spin 18 = .ok (.istore_n 2, 1) := by decide +kernel
theorem dX4_spin_19 : decode cX4_spin 19 = .ok (.iload_n 2, 1) := by decide +kernel
theorem dX4_spin_20 : decode cX4_spin 20 = .ok (.bipush 40, 2) := by decide +kernel
theorem dX4_spin_22 : decode cX4_spin 22 = .ok (.if_icmp .ge 18, 3) := by decide +kernel
theorem dX4_spin_25 : decode cX4_spin 25 = .ok (.iload_n 1, 1) := by decide +kernel
theorem dX4_spin_26 : decode cX4_spin 26 = .ok (.ifCond .eq 14, 3) := by decide +kernel
theorem dX4_spin_29 : decode cX4_spin 29 = .ok (.aload_n 0, 1) := by decide +kernel
theorem dX4_spin_30 : decode cX4_spin 30 = .ok (.invokevirtual 63, 3) := by decide +kernel
theorem dX4_spin_33 : decode cX4_spin 33 = .ok (.istore_n 1, 1) := by decide +kernel
theorem dX4_spin_34 : decode cX4_spin 34 = .ok (.iinc 2 1, 3) := by decide +kernel
theorem dX4_spin_37 : decode cX4_spin 37 = .ok (.goto (-18), 3) := by decide +kernel
theorem dX4_spin_40 : decode cX4_spin 40 = .ok (.iload_n 2, 1) := by decide +kernel
theorem dX4_spin_41 : decode cX4_spin 41 = .ok (.ireturn, 1) := by decide +kernel
theorem dX4_spinOnce_0 : decode cX4_spinOnce 0 = .ok (.iconst 0, 1) := by decide +kernel
theorem dX4_spinOnce_1 : decode cX4_spinOnce 1 = .ok (.istore_n 1, 1) := by decide +kernel
theorem dX4_spinOnce_2 : decode cX4_spinOnce 2 = .ok (.iconst 0, 1) := by decide +kernel
theorem dX4_spinOnce_3 : decode cX4_spinOnce 3 = .ok (.istore_n 2, 1) := by decide +kernel
theorem dX4_spinOnce_4 : decode cX4_spinOnce 4 = .ok (.iload_n 2, 1) := by decide +kernel
theorem dX4_spinOnce_5 : decode cX4_spinOnce 5 = .ok (.bipush 6, 2) := by decide +kernel
theorem dX4_spinOnce_7 : decode cX4_spinOnce 7 = .ok (.if_icmp .ge 52, 3) := by decide +kernel
theorem dX4_spinOnce_10 : decode cX4_spinOnce 10 = .ok (.aload_n 0, 1) := by decide +kernel
theorem dX4_spinOnce_11 : decode cX4_spinOnce 11 = .ok (.getfield 30, 3) := by decide +kernel
theorem dX4_spinOnce_14 : decode cX4_spinOnce 14 = .ok (.iload_n 2, 1) := by decide +kernel
theorem dX4_spinOnce_15 : decode cX4_spinOnce 15 = .ok (.aload_n 0, 1) := by decide +kernel
theorem dX4_spinOnce_16 : decode cX4_spinOnce 16 = .ok (.getfield 24, 3) := by decide +kernel
theorem dX4_spinOnce_19 : decode cX4_spinOnce 19 = .ok (.iload_n 2, 1) := by decide +kernel
theorem dX4_spinOnce_20 : decode cX4_spinOnce 20 = .ok (.iaload, 1) := by decide +kernel
theorem dX4_spinOnce_21 : decode cX4_spinOnce 21 = .ok (.aload_n 0, 1) := by decide +kernel
theorem dX4_spinOnce_22 : decode cX4_spinOnce 22 = .ok (.iload_n 2, 1) := by decide +kernel
theorem dX4_spinOnce_23 : decode cX4_spinOnce 23 = .ok (.invokevirtual 67, 3) := by decide +kernel
theorem dX4_spinOnce_26 : decode cX4_spinOnce 26 = .ok (.iadd, 1) := by decide +kernel
theorem dX4_spinOnce_27 : decode cX4_spinOnce 27 = .ok (.iastore, 1) := by decide +kernel
theorem dX4_spinOnce_28 : decode cX4_spinOnce 28 = .ok (.iload_n 1, 1) := by decide +kernel
theorem dX4_spinOnce_29 : decode cX4_spinOnce 29 = .ok (.ifCond .ne 18, 3) := by decide +kernel
theorem dX4_spinOnce_32 : decode cX4_spinOnce 32 = .ok (.aload_n 0, 1) := by decide +kernel
theorem dX4_spinOnce_33 : decode cX4_spinOnce 33 = .ok (.getfield 30, 3) := by decide +kernel
theorem dX4_spinOnce_36 : decode cX4_spinOnce 36 = .ok (.iload_n 2, 1) := by decide +kernel
theorem dX4_spinOnce_37 : decode cX4_spinOnce 37 = .ok (.iaload, 1) := by decide +kernel
theorem dX4_spinOnce_38 : decode cX4_spinOnce 38 = .ok (.aload_n 0, 1) := by decide +kernel
theorem dX4_spinOnce_39 : decode cX4_spinOnce 39 = .ok (.getfield 27, 3) := by decide +kernel
theorem dX4_spinOnce_42 : decode cX4_spinOnce 42 = .ok (.iload_n 2, 1) := by decide +kernel
theorem dX4_spinOnce_43 : decode cX4_spinOnce 43 = .ok (.iaload, 1) := by decide +kernel
theorem dX4_spinOnce_44 : decode cX4_spinOnce 44 = .ok (.if_icmp .eq 7, 3) := by decide +kernel
theorem dX4_spinOnce_47 : decode cX4_spinOnce 47 = .ok (.iconst 1, 1) := by decide +kernel
theorem dX4_spinOnce_48 : decode cX4_spinOnce 48 = .ok (.goto 4, 3) := by decide +kernel
theorem dX4_spinOnce_51 : decode cX4_spinOnce 51 = .ok (.iconst 0, 1) := by decide +kernel
theorem dX4_spinOnce_52 : decode cX4_spinOnce 52 = .ok (.istore_n 1, 1) := by decide +kernel
theorem dX4_spinOnce_53 : decode cX4_spinOnce 53 = .ok (.iinc 2 1, 3) := by decide +kernel
theorem dX4_spinOnce_56 : decode cX4_spinOnce 56 = .ok (.goto (-52), 3) := by decide +kernel
theorem dX4_spinOnce_59 : decode cX4_spinOnce 59 = .ok (.aload_n 0, 1) := by decide +kernel
theorem dX4_spinOnce_60 : decode cX4_spinOnce 60 = .ok (.getfield 30, 3) := by decide +kernel
theorem dX4_spinOnce_63 : decode cX4_spinOnce 63 = .ok (.iconst 0, 1) := by decide +kernel
theorem dX4_spinOnce_64 : decode cX4_spinOnce 64 = .ok (.aload_n 0, 1) := by decide +kernel
theorem dX4_spinOnce_65 : decode cX4_spinOnce 65 = .ok (.getfield 27, 3) := by decide +kernel
theorem dX4_spinOnce_68 : decode cX4_spinOnce 68 = .ok (.iconst 0, 1) := by decide +kernel
theorem dX4_spinOnce_69 : decode cX4_spinOnce 69 = .ok (.bipush 6, 2) := by decide +kernel
theorem dX4_spinOnce_71 : decode cX4_spinOnce 71 = .ok (.invokestatic 57, 3) := by decide +kernel
theorem dX4_spinOnce_74 : decode cX4_spinOnce 74 = .ok (.iload_n 1, 1) := by decide +kernel
theorem dX4_spinOnce_75 : decode cX4_spinOnce 75 = .ok (.ireturn, 1) := by decide +kernel
theorem dX4_passedOnTo_0 : decode cX4_passedOnTo 0 = .ok (.iconst 0, 1) := by decide +kernel
theorem dX4_passedOnTo_1 : decode cX4_passedOnTo 1 = .ok (.istore_n 2, 1) := by decide +kernel
theorem dX4_passedOnTo_2 : decode cX4_passedOnTo 2 = .ok (.iconst 0, 1) := by decide +kernel
theorem dX4_passedOnTo_3 : decode cX4_passedOnTo 3 = .ok (.istore_n 3, 1) := by decide +kernel
theorem dX4_passedOnTo_4 : decode cX4_passedOnTo 4 = .ok (.iload_n 3, 1) := by decide +kernel
theorem dX4_passedOnTo_5 : decode cX4_passedOnTo 5 = .ok (.bipush 6, 2) := by decide +kernel
theorem dX4_passedOnTo_7 : decode cX4_passedOnTo 7 = .ok (.if_icmp .ge 27, 3) := by decide +kernel
theorem dX4_passedOnTo_10 : decode cX4_passedOnTo 10 = .ok (.aload_n 0, 1) := by decide +kernel
theorem dX4_passedOnTo_11 : decode cX4_passedOnTo 11 = .ok (.getfield 15, 3) := by decide +kernel
theorem dX4_passedOnTo_14 : decode cX4_passedOnTo 14 = .ok (.iload_n 3, 1) := by decide +kernel
theorem dX4_passedOnTo_15 : decode cX4_passedOnTo 15 = .ok (.iaload, 1) := by decide +kernel
theorem dX4_passedOnTo_16 : decode cX4_passedOnTo 16 = .ok (.iload_n 1, 1) := by decide +kernel
theorem dX4_passedOnTo_17 : decode cX4_passedOnTo 17 = .ok (.if_icmp .ne 11, 3) := by decide +kernel
theorem dX4_passedOnTo_20 : decode cX4_passedOnTo 20 = .ok (.iload_n 2, 1) := by decide +kernel
theorem dX4_passedOnTo_21 : decode cX4_passedOnTo 21 = .ok (.aload_n 0, 1) := by decide +kernel
theorem dX4_passedOnTo_22 : decode cX4_passedOnTo 22 = .ok (.iload_n 3, 1) := by decide +kernel
theorem dX4_passedOnTo_23 : decode cX4_passedOnTo 23 = .ok (.invokevirtual 71, 3) := by decide +kernel
theorem dX4_passedOnTo_26 : decode cX4_passedOnTo 26 = .ok (.iadd, 1) := by decide +kernel
theorem dX4_passedOnTo_27 : decode cX4_passedOnTo 27 = .ok (.istore_n 2, 1) := by decide +kernel
theorem dX4_passedOnTo_28 : decode cX4_passedOnTo 28 = .ok (.iinc 3 1, 3) := by decide +kernel
theorem dX4_passedOnTo_31 : decode cX4_passedOnTo 31 = .ok (.goto (-27), 3) := by decide +kernel
theorem dX4_passedOnTo_34 : decode cX4_passedOnTo 34 = .ok (.iload_n 2, 1) := by decide +kernel
theorem dX4_passedOnTo_35 : decode cX4_passedOnTo 35 = .ok (.ireturn, 1) := by decide +kernel
theorem dX4_passedOnBy_0 : decode cX4_passedOnBy 0 = .ok (.aload_n 0, 1) := by decide +kernel
theorem dX4_passedOnBy_1 : decode cX4_passedOnBy 1 = .ok (.getfield 27, 3) := by decide +kernel
theorem dX4_passedOnBy_4 : decode cX4_passedOnBy 4 = .ok (.iload_n 1, 1) := by decide +kernel
theorem dX4_passedOnBy_5 : decode cX4_passedOnBy 5 = .ok (.iaload, 1) := by decide +kernel
theorem dX4_passedOnBy_6 : decode cX4_passedOnBy 6 = .ok (.aload_n 0, 1) := by decide +kernel
theorem dX4_passedOnBy_7 : decode cX4_passedOnBy 7 = .ok (.getfield 18, 3) := by decide +kernel
theorem dX4_passedOnBy_10 : decode cX4_passedOnBy 10 = .ok (.iload_n 1, 1) := by decide +kernel
theorem dX4_passedOnBy_11 : decode cX4_passedOnBy 11 = .ok (.iaload, 1) := by decide +kernel
theorem dX4_passedOnBy_12 : decode cX4_passedOnBy 12 = .ok (.isub, 1) := by decide +kernel
theorem dX4_passedOnBy_13 : decode cX4_passedOnBy 13 = .ok (.iconst 0, 1) := by decide +kernel
theorem dX4_passedOnBy_14 : decode cX4_passedOnBy 14 = .ok (.invokestatic 74, 3) := by decide +kernel
theorem dX4_passedOnBy_17 : decode cX4_passedOnBy 17 = .ok (.aload_n 0, 1) := by decide +kernel
theorem dX4_passedOnBy_18 : decode cX4_passedOnBy 18 = .ok (.getfield 21, 3) := by decide +kernel
theorem dX4_passedOnBy_21 : decode cX4_passedOnBy 21 = .ok (.iload_n 1, 1) := by decide +kernel
theorem dX4_passedOnBy_22 : decode cX4_passedOnBy 22 = .ok (.iaload, 1) := by decide +kernel
theorem dX4_passedOnBy_23 : decode cX4_passedOnBy 23 = .ok (.invokestatic 79, 3) := by decide +kernel
theorem dX4_passedOnBy_26 : decode cX4_passedOnBy 26 = .ok (.ireturn, 1) := by decide +kernel
theorem dX4_ofReinsurer_0 : decode cX4_ofReinsurer 0 = .ok (.iload_n 2, 1) := by decide +kernel
theorem dX4_ofReinsurer_1 : decode cX4_ofReinsurer 1 = .ok (.lookupswitch 41 #[(0, 27), (1, 34)], 27) := by decide +kernel
theorem dX4_ofReinsurer_28 : decode cX4_ofReinsurer 28 = .ok (.aload_n 0, 1) := by decide +kernel
theorem dX4_ofReinsurer_29 : decode cX4_ofReinsurer 29 = .ok (.getfield 24, 3) := by decide +kernel
theorem dX4_ofReinsurer_32 : decode cX4_ofReinsurer 32 = .ok (.iload_n 1, 1) := by decide +kernel
theorem dX4_ofReinsurer_33 : decode cX4_ofReinsurer 33 = .ok (.iaload, 1) := by decide +kernel
theorem dX4_ofReinsurer_34 : decode cX4_ofReinsurer 34 = .ok (.ireturn, 1) := by decide +kernel
theorem dX4_ofReinsurer_35 : decode cX4_ofReinsurer 35 = .ok (.aload_n 0, 1) := by decide +kernel
theorem dX4_ofReinsurer_36 : decode cX4_ofReinsurer 36 = .ok (.getfield 27, 3) := by decide +kernel
theorem dX4_ofReinsurer_39 : decode cX4_ofReinsurer 39 = .ok (.iload_n 1, 1) := by decide +kernel
theorem dX4_ofReinsurer_40 : decode cX4_ofReinsurer 40 = .ok (.iaload, 1) := by decide +kernel
theorem dX4_ofReinsurer_41 : decode cX4_ofReinsurer 41 = .ok (.ireturn, 1) := by decide +kernel
theorem dX4_ofReinsurer_42 : decode cX4_ofReinsurer 42 = .ok (.aload_n 0, 1) := by decide +kernel
theorem dX4_ofReinsurer_43 : decode cX4_ofReinsurer 43 = .ok (.getfield 27, 3) := by decide +kernel
theorem dX4_ofReinsurer_46 : decode cX4_ofReinsurer 46 = .ok (.iload_n 1, 1) := by decide +kernel
theorem dX4_ofReinsurer_47 : decode cX4_ofReinsurer 47 = .ok (.iaload, 1) := by decide +kernel
theorem dX4_ofReinsurer_48 : decode cX4_ofReinsurer 48 = .ok (.aload_n 0, 1) := by decide +kernel
theorem dX4_ofReinsurer_49 : decode cX4_ofReinsurer 49 = .ok (.iload_n 1, 1) := by decide +kernel
theorem dX4_ofReinsurer_50 : decode cX4_ofReinsurer 50 = .ok (.invokevirtual 71, 3) := by decide +kernel
theorem dX4_ofReinsurer_53 : decode cX4_ofReinsurer 53 = .ok (.isub, 1) := by decide +kernel
theorem dX4_ofReinsurer_54 : decode cX4_ofReinsurer 54 = .ok (.ireturn, 1) := by decide +kernel
theorem dX5_init_0 : decode cX5_init 0 = .ok (.aload_n 0, 1) := by decide +kernel
theorem dX5_init_1 : decode cX5_init 1 = .ok (.invokespecial 3, 3) := by decide +kernel
theorem dX5_init_4 : decode cX5_init 4 = .ok (.aload_n 0, 1) := by decide +kernel
theorem dX5_init_5 : decode cX5_init 5 = .ok (.bipush 8, 2) := by decide +kernel
theorem dX5_init_7 : decode cX5_init 7 = .ok (.newarray .int, 2) := by decide +kernel
theorem dX5_init_9 : decode cX5_init 9 = .ok (.putfield 9, 3) := by decide +kernel
theorem dX5_init_12 : decode cX5_init 12 = .ok (.aload_n 0, 1) := by decide +kernel
theorem dX5_init_13 : decode cX5_init 13 = .ok (.bipush 8, 2) := by decide +kernel
theorem dX5_init_15 : decode cX5_init 15 = .ok (.newarray .int, 2) := by decide +kernel
theorem dX5_init_17 : decode cX5_init 17 = .ok (.putfield 15, 3) := by decide +kernel
theorem dX5_init_20 : decode cX5_init 20 = .ok (.aload_n 0, 1) := by decide +kernel
theorem dX5_init_21 : decode cX5_init 21 = .ok (.bipush 8, 2) := by decide +kernel
theorem dX5_init_23 : decode cX5_init 23 = .ok (.newarray .int, 2) := by decide +kernel
theorem dX5_init_25 : decode cX5_init 25 = .ok (.putfield 18, 3) := by decide +kernel
theorem dX5_init_28 : decode cX5_init 28 = .ok (.aload_n 0, 1) := by decide +kernel
theorem dX5_init_29 : decode cX5_init 29 = .ok (.bipush 8, 2) := by decide +kernel
theorem dX5_init_31 : decode cX5_init 31 = .ok (.newarray .int, 2) := by decide +kernel
theorem dX5_init_33 : decode cX5_init 33 = .ok (.putfield 21, 3) := by decide +kernel
theorem dX5_init_36 : decode cX5_init 36 = .ok (.aload_n 0, 1) := by decide +kernel
theorem dX5_init_37 : decode cX5_init 37 = .ok (.bipush 8, 2) := by decide +kernel
theorem dX5_init_39 : decode cX5_init 39 = .ok (.newarray .int, 2) := by decide +kernel
theorem dX5_init_41 : decode cX5_init 41 = .ok (.putfield 24, 3) := by decide +kernel
theorem dX5_init_44 : decode cX5_init 44 = .ok (.aload_n 0, 1) := by decide +kernel
theorem dX5_init_45 : decode cX5_init 45 = .ok (.bipush 40, 2) := by decide +kernel
theorem dX5_init_47 : decode cX5_init 47 = .ok (.newarray .int, 2) := by decide +kernel
theorem dX5_init_49 : decode cX5_init 49 = .ok (.putfield 27, 3) := by decide +kernel
theorem dX5_init_52 : decode cX5_init 52 = .ok (.aload_n 0, 1) := by decide +kernel
theorem dX5_init_53 : decode cX5_init 53 = .ok (.bipush 40, 2) := by decide +kernel
theorem dX5_init_55 : decode cX5_init 55 = .ok (.newarray .int, 2) := by decide +kernel
theorem dX5_init_57 : decode cX5_init 57 = .ok (.putfield 30, 3) := by decide +kernel
theorem dX5_init_60 : decode cX5_init 60 = .ok (.aload_n 0, 1) := by decide +kernel
theorem dX5_init_61 : decode cX5_init 61 = .ok (.bipush 40, 2) := by decide +kernel
theorem dX5_init_63 : decode cX5_init 63 = .ok (.newarray .int, 2) := by decide +kernel
theorem dX5_init_65 : decode cX5_init 65 = .ok (.putfield 33, 3) := by decide +kernel
theorem dX5_init_68 : decode cX5_init 68 = .ok (.aload_n 0, 1) := by decide +kernel
theorem dX5_init_69 : decode cX5_init 69 = .ok (.bipush 40, 2) := by decide +kernel
theorem dX5_init_71 : decode cX5_init 71 = .ok (.newarray .int, 2) := by decide +kernel
theorem dX5_init_73 : decode cX5_init 73 = .ok (.putfield 36, 3) := by decide +kernel
theorem dX5_init_76 : decode cX5_init 76 = .ok (.aload_n 0, 1) := by decide +kernel
theorem dX5_init_77 : decode cX5_init 77 = .ok (.bipush 40, 2) := by decide +kernel
theorem dX5_init_79 : decode cX5_init 79 = .ok (.newarray .int, 2) := by decide +kernel
theorem dX5_init_81 : decode cX5_init 81 = .ok (.putfield 39, 3) := by decide +kernel
theorem dX5_init_84 : decode cX5_init 84 = .ok (.return_, 1) := by decide +kernel
theorem dX5_settle_0 : decode cX5_settle 0 = .ok (.aload_n 0, 1) := by decide +kernel
theorem dX5_settle_1 : decode cX5_settle 1 = .ok (.aload_n 2, 1) := by decide +kernel
theorem dX5_settle_2 : decode cX5_settle 2 = .ok (.getfield 42, 3) := by decide +kernel
theorem dX5_settle_5 : decode cX5_settle 5 = .ok (.putfield 48, 3) := by decide +kernel
theorem dX5_settle_8 : decode cX5_settle 8 = .ok (.aload_n 0, 1) := by decide +kernel
theorem dX5_settle_9 : decode cX5_settle 9 = .ok (.aload_n 3, 1) := by decide +kernel
theorem dX5_settle_10 : decode cX5_settle 10 = .ok (.getfield 51, 3) := by decide +kernel
theorem dX5_settle_13 : decode cX5_settle 13 = .ok (.putfield 54, 3) := by decide +kernel
theorem dX5_settle_16 : decode cX5_settle 16 = .ok (.iconst 0, 1) := by decide +kernel
theorem dX5_settle_17 : decode cX5_settle 17 = .ok (.istore 4, 2) := by decide +kernel
theorem dX5_settle_19 : decode cX5_settle 19 = .ok (.iload 4, 2) := by decide +kernel
theorem dX5_settle_21 : decode cX5_settle 21 = .ok (.aload_n 0, 1) := by decide +kernel
theorem dX5_settle_22 : decode cX5_settle 22 = .ok (.getfield 48, 3) := by decide +kernel
theorem dX5_settle_25 : decode cX5_settle 25 = .ok (.if_icmp .ge 70, 3) := by decide +kernel
theorem dX5_settle_28 : decode cX5_settle 28 = .ok (.aload_n 0, 1) := by decide +kernel
theorem dX5_settle_29 : decode cX5_settle 29 = .ok (.getfield 9, 3) := by decide +kernel
theorem dX5_settle_32 : decode cX5_settle 32 = .ok (.iload 4, 2) := by decide +kernel
theorem dX5_settle_34 : decode cX5_settle 34 = .ok (.aload_n 2, 1) := by decide +kernel
theorem dX5_settle_35 : decode cX5_settle 35 = .ok (.iload 4, 2) := by decide +kernel
theorem dX5_settle_37 : decode cX5_settle 37 = .ok (.aload_n 1, 1) := by decide +kernel
theorem dX5_settle_38 : decode cX5_settle 38 = .ok (.invokevirtual 57, 3) := by decide +kernel
theorem dX5_settle_41 : decode cX5_settle 41 = .ok (.iastore, 1) := by decide +kernel
theorem dX5_settle_42 : decode cX5_settle 42 = .ok (.aload_n 0, 1) := by decide +kernel
theorem dX5_settle_43 : decode cX5_settle 43 = .ok (.getfield 15, 3) := by decide +kernel
theorem dX5_settle_46 : decode cX5_settle 46 = .ok (.iload 4, 2) := by decide +kernel
theorem dX5_settle_48 : decode cX5_settle 48 = .ok (.aload_n 3, 1) := by decide +kernel
theorem dX5_settle_49 : decode cX5_settle 49 = .ok (.aload_n 0, 1) := by decide +kernel
theorem dX5_settle_50 : decode cX5_settle 50 = .ok (.getfield 9, 3) := by decide +kernel
theorem dX5_settle_53 : decode cX5_settle 53 = .ok (.iload 4, 2) := by decide +kernel
theorem dX5_settle_55 : decode cX5_settle 55 = .ok (.iaload, 1) := by decide +kernel
theorem dX5_settle_56 : decode cX5_settle 56 = .ok (.invokevirtual 61, 3) := by decide +kernel
theorem dX5_settle_59 : decode cX5_settle 59 = .ok (.iastore, 1) := by decide +kernel
theorem dX5_settle_60 : decode cX5_settle 60 = .ok (.aload_n 0, 1) := by decide +kernel
theorem dX5_settle_61 : decode cX5_settle 61 = .ok (.getfield 21, 3) := by decide +kernel
theorem dX5_settle_64 : decode cX5_settle 64 = .ok (.iload 4, 2) := by decide +kernel
theorem dX5_settle_66 : decode cX5_settle 66 = .ok (.iconst 0, 1) := by decide +kernel
theorem dX5_settle_67 : decode cX5_settle 67 = .ok (.iastore, 1) := by decide +kernel
theorem dX5_settle_68 : decode cX5_settle 68 = .ok (.aload_n 0, 1) := by decide +kernel
theorem dX5_settle_69 : decode cX5_settle 69 = .ok (.getfield 24, 3) := by decide +kernel
theorem dX5_settle_72 : decode cX5_settle 72 = .ok (.iload 4, 2) := by decide +kernel
theorem dX5_settle_74 : decode cX5_settle 74 = .ok (.iconst 0, 1) := by decide +kernel
theorem dX5_settle_75 : decode cX5_settle 75 = .ok (.iastore, 1) := by decide +kernel
theorem dX5_settle_76 : decode cX5_settle 76 = .ok (.aload_n 0, 1) := by decide +kernel
theorem dX5_settle_77 : decode cX5_settle 77 = .ok (.getfield 18, 3) := by decide +kernel
theorem dX5_settle_80 : decode cX5_settle 80 = .ok (.iload 4, 2) := by decide +kernel
theorem dX5_settle_82 : decode cX5_settle 82 = .ok (.aload_n 2, 1) := by decide +kernel
theorem dX5_settle_83 : decode cX5_settle 83 = .ok (.iload 4, 2) := by decide +kernel
theorem dX5_settle_85 : decode cX5_settle 85 = .ok (.invokevirtual 65, 3) := by decide +kernel
theorem dX5_settle_88 : decode cX5_settle 88 = .ok (.iastore, 1) := by decide +kernel
theorem dX5_settle_89 : decode cX5_settle 89 = .ok (.iinc 4 1, 3) := by decide +kernel
theorem dX5_settle_92 : decode cX5_settle 92 = .ok (.goto (-73), 3) := by decide +kernel
theorem dX5_settle_95 : decode cX5_settle 95 = .ok (.iconst 0, 1) := by decide +kernel
theorem dX5_settle_96 : decode cX5_settle 96 = .ok (.istore 4, 2) := by decide +kernel
theorem dX5_settle_98 : decode cX5_settle 98 = .ok (.iload 4, 2) := by decide +kernel
theorem dX5_settle_100 : decode cX5_settle 100 = .ok (.aload_n 0, 1) := by decide +kernel
theorem dX5_settle_101 : decode cX5_settle 101 = .ok (.getfield 54, 3) := by decide +kernel
theorem dX5_settle_104 : decode cX5_settle 104 = .ok (.if_icmp .ge 16, 3) := by decide +kernel
theorem dX5_settle_107 : decode cX5_settle 107 = .ok (.aload_n 0, 1) := by decide +kernel
theorem dX5_settle_108 : decode cX5_settle 108 = .ok (.aload_n 3, 1) := by decide +kernel
theorem dX5_settle_109 : decode cX5_settle 109 = .ok (.iload 4, 2) := by decide +kernel
theorem dX5_settle_111 : decode cX5_settle 111 = .ok (.invokevirtual 68, 3) := by decide +kernel
theorem dX5_settle_114 : decode cX5_settle 114 = .ok (.iinc 4 1, 3) := by decide +kernel
theorem dX5_settle_117 : decode cX5_settle 117 = .ok (.goto (-19), 3) := by decide +kernel
theorem dX5_settle_120 : decode cX5_settle 120 = .ok (.return_, 1) := by decide +kernel
theorem dX5_settleLayer_0 : decode cX5_settleLayer 0 = .ok (.aload_n 0, 1) := by decide +kernel
theorem dX5_settleLayer_1 : decode cX5_settleLayer 1 = .ok (.aload_n 1, 1) := by decide +kernel
theorem dX5_settleLayer_2 : decode cX5_settleLayer 2 = .ok (.iload_n 2, 1) := by decide +kernel
theorem dX5_settleLayer_3 : decode cX5_settleLayer 3 = .ok (.invokevirtual 72, 3) := by decide +kernel
theorem dX5_settleLayer_6 : decode cX5_settleLayer 6 = .ok (.putfield 75, 3) := by decide +kernel
theorem dX5_settleLayer_9 : decode cX5_settleLayer 9 = .ok (.aload_n 0, 1) := by decide +kernel
theorem dX5_settleLayer_10 : decode cX5_settleLayer 10 = .ok (.aload_n 1, 1) := by decide +kernel
theorem dX5_settleLayer_11 : decode cX5_settleLayer 11 = .ok (.iload_n 2, 1) := by decide +kernel
theorem dX5_settleLayer_12 : decode cX5_settleLayer 12 = .ok (.invokevirtual 78, 3) := by decide +kernel
theorem dX5_settleLayer_15 : decode cX5_settleLayer 15 = .ok (.putfield 81, 3) := by decide +kernel
theorem dX5_settleLayer_18 : decode cX5_settleLayer 18 = .ok (.iconst 0, 1) := by decide +kernel
theorem dX5_settleLayer_19 : decode cX5_settleLayer 19 = .ok (.istore_n 3, 1) := by decide +kernel
theorem dX5_settleLayer_20 : decode cX5_settleLayer 20 = .ok (.iload_n 3, 1) := by decide +kernel
theorem dX5_settleLayer_21 : decode cX5_settleLayer 21 = .ok (.aload_n 0, 1) := by decide +kernel
theorem dX5_settleLayer_22 : decode cX5_settleLayer 22 = .ok (.getfield 48, 3) := by decide +kernel
theorem dX5_settleLayer_25 : decode cX5_settleLayer 25 = .ok (.if_icmp .ge 46, 3) := by decide +kernel
theorem dX5_settleLayer_28 : decode cX5_settleLayer 28 = .ok (.iconst 0, 1) := by decide +kernel
theorem dX5_settleLayer_29 : decode cX5_settleLayer 29 = .ok (.istore 4, 2) := by decide +kernel
theorem dX5_settleLayer_31 : decode cX5_settleLayer 31 = .ok (.iload 4, 2) := by decide +kernel
theorem dX5_settleLayer_33 : decode cX5_settleLayer 33 = .ok (.aload_n 0, 1) := by decide +kernel
theorem dX5_settleLayer_34 : decode cX5_settleLayer 34 = .ok (.getfield 48, 3) := by decide +kernel
theorem dX5_settleLayer_37 : decode cX5_settleLayer 37 = .ok (.if_icmp .ge 28, 3) := by decide +kernel
theorem dX5_settleLayer_40 : decode cX5_settleLayer 40 = .ok (.aload_n 0, 1) := by decide +kernel
theorem dX5_settleLayer_41 : decode cX5_settleLayer 41 = .ok (.getfield 18, 3) := by decide +kernel
theorem dX5_settleLayer_44 : decode cX5_settleLayer 44 = .ok (.iload 4, 2) := by decide +kernel
theorem dX5_settleLayer_46 : decode cX5_settleLayer 46 = .ok (.iaload, 1) := by decide +kernel
theorem dX5_settleLayer_47 : decode cX5_settleLayer 47 = .ok (.iload_n 3, 1) := by decide +kernel
theorem dX5_settleLayer_48 : decode cX5_settleLayer 48 = .ok (.if_icmp .ne 11, 3) := by decide +kernel
theorem dX5_settleLayer_51 : decode cX5_settleLayer 51 = .ok (.aload_n 0, 1) := by decide +kernel
theorem dX5_settleLayer_52 : decode cX5_settleLayer 52 = .ok (.aload_n 1, 1) := by decide +kernel
theorem dX5_settleLayer_53 : decode cX5_settleLayer 53 = .ok (.iload_n 2, 1) := by decide +kernel
theorem dX5_settleLayer_54 : decode cX5_settleLayer 54 = .ok (.iload 4, 2) := by decide +kernel
theorem dX5_settleLayer_56 : decode cX5_settleLayer 56 = .ok (.invokevirtual 83, 3) := by decide +kernel
theorem dX5_settleLayer_59 : decode cX5_settleLayer 59 = .ok (.iinc 4 1, 3) := by decide +kernel
theorem dX5_settleLayer_62 : decode cX5_settleLayer 62 = .ok (.goto (-31), 3) := by decide +kernel
theorem dX5_settleLayer_65 : decode cX5_settleLayer 65 = .ok (.iinc 3 1, 3) := by decide +kernel
theorem dX5_settleLayer_68 : decode cX5_settleLayer 68 = .ok (.goto (-48), 3) := by decide +kernel
theorem dX5_settleLayer_71 : decode cX5_settleLayer 71 = .ok (.return_, 1) := by decide +kernel
theorem dX5_settleOne_0 : decode cX5_settleOne 0 = .ok (.iload_n 2, 1) := by decide +kernel
theorem dX5_settleOne_1 : decode cX5_settleOne 1 = .ok (.iload_n 3, 1) := by decide +kernel
theorem dX5_settleOne_2 : decode cX5_settleOne 2 = .ok (.invokestatic 87, 3) := by decide +kernel
theorem dX5_settleOne_5 : decode cX5_settleOne 5 = .ok (.istore 4, 2) := by decide +kernel
theorem dX5_settleOne_7 : decode cX5_settleOne 7 = .ok (.aload_n 0, 1) := by decide +kernel
theorem dX5_settleOne_8 : decode cX5_settleOne 8 = .ok (.getfield 27, 3) := by decide +kernel
theorem dX5_settleOne_11 : decode cX5_settleOne 11 = .ok (.iload 4, 2) := by decide +kernel
theorem dX5_settleOne_13 : decode cX5_settleOne 13 = .ok (.aload_n 1, 1) := by decide +kernel
theorem dX5_settleOne_14 : decode cX5_settleOne 14 = .ok (.iload_n 2, 1) := by decide +kernel
theorem dX5_settleOne_15 : decode cX5_settleOne 15 = .ok (.aload_n 0, 1) := by decide +kernel
theorem dX5_settleOne_16 : decode cX5_settleOne 16 = .ok (.iload_n 3, 1) := by decide +kernel
theorem dX5_settleOne_17 : decode cX5_settleOne 17 = .ok (.invokevirtual 91, 3) := by decide +kernel
theorem dX5_settleOne_20 : decode cX5_settleOne 20 = .ok (.invokevirtual 94, 3) := by decide +kernel
theorem dX5_settleOne_23 : decode cX5_settleOne 23 = .ok (.aload_n 0, 1) := by decide +kernel
theorem dX5_settleOne_24 : decode cX5_settleOne 24 = .ok (.getfield 75, 3) := by decide +kernel
theorem dX5_settleOne_27 : decode cX5_settleOne 27 = .ok (.invokestatic 97, 3) := by decide +kernel
theorem dX5_settleOne_30 : decode cX5_settleOne 30 = .ok (.iastore, 1) := by decide +kernel
theorem dX5_settleOne_31 : decode cX5_settleOne 31 = .ok (.aload_n 0, 1) := by decide +kernel
theorem dX5_settleOne_32 : decode cX5_settleOne 32 = .ok (.getfield 30, 3) := by decide +kernel
theorem dX5_settleOne_35 : decode cX5_settleOne 35 = .ok (.iload 4, 2) := by decide +kernel
theorem dX5_settleOne_37 : decode cX5_settleOne 37 = .ok (.aload_n 1, 1) := by decide +kernel
theorem dX5_settleOne_38 : decode cX5_settleOne 38 = .ok (.iload_n 2, 1) := by decide +kernel
theorem dX5_settleOne_39 : decode cX5_settleOne 39 = .ok (.aload_n 0, 1) := by decide +kernel
theorem dX5_settleOne_40 : decode cX5_settleOne 40 = .ok (.getfield 27, 3) := by decide +kernel
theorem dX5_settleOne_43 : decode cX5_settleOne 43 = .ok (.iload 4, 2) := by decide +kernel
theorem dX5_settleOne_45 : decode cX5_settleOne 45 = .ok (.iaload, 1) := by decide +kernel
theorem dX5_settleOne_46 : decode cX5_settleOne 46 = .ok (.invokevirtual 102, 3) := by decide +kernel
theorem dX5_settleOne_49 : decode cX5_settleOne 49 = .ok (.iastore, 1) := by decide +kernel
theorem dX5_settleOne_50 : decode cX5_settleOne 50 = .ok (.aload_n 0, 1) := by decide +kernel
theorem dX5_settleOne_51 : decode cX5_settleOne 51 = .ok (.getfield 33, 3) := by decide +kernel
theorem dX5_settleOne_54 : decode cX5_settleOne 54 = .ok (.iload 4, 2) := by decide +kernel
theorem dX5_settleOne_56 : decode cX5_settleOne 56 = .ok (.aload_n 0, 1) := by decide +kernel
theorem dX5_settleOne_57 : decode cX5_settleOne 57 = .ok (.getfield 27, 3) := by decide +kernel
theorem dX5_settleOne_60 : decode cX5_settleOne 60 = .ok (.iload 4, 2) := by decide +kernel
theorem dX5_settleOne_62 : decode cX5_settleOne 62 = .ok (.iaload, 1) := by decide +kernel
theorem dX5_settleOne_63 : decode cX5_settleOne 63 = .ok (.aload_n 0, 1) := by decide +kernel
theorem dX5_settleOne_64 : decode cX5_settleOne 64 = .ok (.getfield 81, 3) := by decide +kernel
theorem dX5_settleOne_67 : decode cX5_settleOne 67 = .ok (.invokestatic 97, 3) := by decide +kernel
theorem dX5_settleOne_70 : decode cX5_settleOne 70 = .ok (.iastore, 1) := by decide +kernel
theorem dX5_settleOne_71 : decode cX5_settleOne 71 = .ok (.aload_n 0, 1) := by decide +kernel
theorem dX5_settleOne_72 : decode cX5_settleOne 72 = .ok (.getfield 36, 3) := by decide +kernel
theorem dX5_settleOne_75 : decode cX5_settleOne 75 = .ok (.iload 4, 2) := by decide +kernel
theorem dX5_settleOne_77 : decode cX5_settleOne 77 = .ok (.aload_n 1, 1) := by decide +kernel
theorem dX5_settleOne_78 : decode cX5_settleOne 78 = .ok (.iload_n 2, 1) := by decide +kernel
theorem dX5_settleOne_79 : decode cX5_settleOne 79 = .ok (.aload_n 0, 1) := by decide +kernel
theorem dX5_settleOne_80 : decode cX5_settleOne 80 = .ok (.getfield 33, 3) := by decide +kernel
theorem dX5_settleOne_83 : decode cX5_settleOne 83 = .ok (.iload 4, 2) := by decide +kernel
theorem dX5_settleOne_85 : decode cX5_settleOne 85 = .ok (.iaload, 1) := by decide +kernel
theorem dX5_settleOne_86 : decode cX5_settleOne 86 = .ok (.invokevirtual 105, 3) := by decide +kernel
theorem dX5_settleOne_89 : decode cX5_settleOne 89 = .ok (.iastore, 1) := by decide +kernel
theorem dX5_settleOne_90 : decode cX5_settleOne 90 = .ok (.aload_n 0, 1) := by decide +kernel
theorem dX5_settleOne_91 : decode cX5_settleOne 91 = .ok (.dup, 1) := by decide +kernel
theorem dX5_settleOne_92 : decode cX5_settleOne 92 = .ok (.getfield 75, 3) := by decide +kernel
theorem dX5_settleOne_95 : decode cX5_settleOne 95 = .ok (.aload_n 0, 1) := by decide +kernel
theorem dX5_settleOne_96 : decode cX5_settleOne 96 = .ok (.getfield 27, 3) := by decide +kernel
theorem dX5_settleOne_99 : decode cX5_settleOne 99 = .ok (.iload 4, 2) := by decide +kernel
theorem dX5_settleOne_101 : decode cX5_settleOne 101 = .ok (.iaload, 1) := by decide +kernel
theorem dX5_settleOne_102 : decode cX5_settleOne 102 = .ok (.isub, 1) := by decide +kernel
theorem dX5_settleOne_103 : decode cX5_settleOne 103 = .ok (.putfield 75, 3) := by decide +kernel
theorem dX5_settleOne_106 : decode cX5_settleOne 106 = .ok (.aload_n 0, 1) := by decide +kernel
theorem dX5_settleOne_107 : decode cX5_settleOne 107 = .ok (.dup, 1) := by decide +kernel
theorem dX5_settleOne_108 : decode cX5_settleOne 108 = .ok (.getfield 81, 3) := by decide +kernel
theorem dX5_settleOne_111 : decode cX5_settleOne 111 = .ok (.aload_n 0, 1) := by decide +kernel
theorem dX5_settleOne_112 : decode cX5_settleOne 112 = .ok (.getfield 33, 3) := by decide +kernel
theorem dX5_settleOne_115 : decode cX5_settleOne 115 = .ok (.iload 4, 2) := by decide +kernel
theorem dX5_settleOne_117 : decode cX5_settleOne 117 = .ok (.iaload, 1) := by decide +kernel
theorem dX5_settleOne_118 : decode cX5_settleOne 118 = .ok (.isub, 1) := by decide +kernel
theorem dX5_settleOne_119 : decode cX5_settleOne 119 = .ok (.putfield 81, 3) := by decide +kernel
theorem dX5_settleOne_122 : decode cX5_settleOne 122 = .ok (.aload_n 0, 1) := by decide +kernel
theorem dX5_settleOne_123 : decode cX5_settleOne 123 = .ok (.getfield 39, 3) := by decide +kernel
theorem dX5_settleOne_126 : decode cX5_settleOne 126 = .ok (.iload 4, 2) := by decide +kernel
theorem dX5_settleOne_128 : decode cX5_settleOne 128 = .ok (.aload_n 0, 1) := by decide +kernel
theorem dX5_settleOne_129 : decode cX5_settleOne 129 = .ok (.getfield 75, 3) := by decide +kernel
theorem dX5_settleOne_132 : decode cX5_settleOne 132 = .ok (.iastore, 1) := by decide +kernel
theorem dX5_settleOne_133 : decode cX5_settleOne 133 = .ok (.aload_n 0, 1) := by decide +kernel
theorem dX5_settleOne_134 : decode cX5_settleOne 134 = .ok (.getfield 21, 3) := by decide +kernel
theorem dX5_settleOne_137 : decode cX5_settleOne 137 = .ok (.iload_n 3, 1) := by decide +kernel
theorem dX5_settleOne_138 : decode cX5_settleOne 138 = .ok (.dup2, 1) := by decide +kernel
theorem dX5_settleOne_139 : decode cX5_settleOne 139 = .ok (.iaload, 1) := by decide +kernel
theorem dX5_settleOne_140 : decode cX5_settleOne 140 = .ok (.aload_n 0, 1) := by decide +kernel
theorem dX5_settleOne_141 : decode cX5_settleOne 141 = .ok (.getfield 30, 3) := by decide +kernel
theorem dX5_settleOne_144 : decode cX5_settleOne 144 = .ok (.iload 4, 2) := by decide +kernel
theorem dX5_settleOne_146 : decode cX5_settleOne 146 = .ok (.iaload, 1) := by decide +kernel
theorem dX5_settleOne_147 : decode cX5_settleOne 147 = .ok (.iadd, 1) := by decide +kernel
theorem dX5_settleOne_148 : decode cX5_settleOne 148 = .ok (.iastore, 1) := by decide +kernel
theorem dX5_settleOne_149 : decode cX5_settleOne 149 = .ok (.aload_n 0, 1) := by decide +kernel
theorem dX5_settleOne_150 : decode cX5_settleOne 150 = .ok (.getfield 24, 3) := by decide +kernel
theorem dX5_settleOne_153 : decode cX5_settleOne 153 = .ok (.iload_n 3, 1) := by decide +kernel
theorem dX5_settleOne_154 : decode cX5_settleOne 154 = .ok (.dup2, 1) := by decide +kernel
theorem dX5_settleOne_155 : decode cX5_settleOne 155 = .ok (.iaload, 1) := by decide +kernel
theorem dX5_settleOne_156 : decode cX5_settleOne 156 = .ok (.aload_n 0, 1) := by decide +kernel
theorem dX5_settleOne_157 : decode cX5_settleOne 157 = .ok (.getfield 36, 3) := by decide +kernel
theorem dX5_settleOne_160 : decode cX5_settleOne 160 = .ok (.iload 4, 2) := by decide +kernel
theorem dX5_settleOne_162 : decode cX5_settleOne 162 = .ok (.iaload, 1) := by decide +kernel
theorem dX5_settleOne_163 : decode cX5_settleOne 163 = .ok (.iadd, 1) := by decide +kernel
theorem dX5_settleOne_164 : decode cX5_settleOne 164 = .ok (.iastore, 1) := by decide +kernel
theorem dX5_settleOne_165 : decode cX5_settleOne 165 = .ok (.return_, 1) := by decide +kernel
theorem dX5_slotOf_0 : decode cX5_slotOf 0 = .ok (.iload_n 0, 1) := by decide +kernel
theorem dX5_slotOf_1 : decode cX5_slotOf 1 = .ok (.bipush 8, 2) := by decide +kernel
theorem dX5_slotOf_3 : decode cX5_slotOf 3 = .ok (.imul, 1) := by decide +kernel
theorem dX5_slotOf_4 : decode cX5_slotOf 4 = .ok (.iload_n 1, 1) := by decide +kernel
theorem dX5_slotOf_5 : decode cX5_slotOf 5 = .ok (.iadd, 1) := by decide +kernel
theorem dX5_slotOf_6 : decode cX5_slotOf 6 = .ok (.ireturn, 1) := by decide +kernel
theorem dX5_netOf_0 : decode cX5_netOf 0 = .ok (.aload_n 0, 1) := by decide +kernel
theorem dX5_netOf_1 : decode cX5_netOf 1 = .ok (.getfield 9, 3) := by decide +kernel
theorem dX5_netOf_4 : decode cX5_netOf 4 = .ok (.iload_n 1, 1) := by decide +kernel
theorem dX5_netOf_5 : decode cX5_netOf 5 = .ok (.iaload, 1) := by decide +kernel
theorem dX5_netOf_6 : decode cX5_netOf 6 = .ok (.aload_n 0, 1) := by decide +kernel
theorem dX5_netOf_7 : decode cX5_netOf 7 = .ok (.getfield 15, 3) := by decide +kernel
theorem dX5_netOf_10 : decode cX5_netOf 10 = .ok (.iload_n 1, 1) := by decide +kernel
theorem dX5_netOf_11 : decode cX5_netOf 11 = .ok (.iaload, 1) := by decide +kernel
theorem dX5_netOf_12 : decode cX5_netOf 12 = .ok (.isub, 1) := by decide +kernel
theorem dX5_netOf_13 : decode cX5_netOf 13 = .ok (.ireturn, 1) := by decide +kernel
theorem dX5_ofOccurrence_0 : decode cX5_ofOccurrence 0 = .ok (.iload_n 2, 1) := by decide +kernel
theorem dX5_ofOccurrence_1 : decode cX5_ofOccurrence 1 = .ok (.tableswitch 69 0 4 #[35, 42, 49, 55, 62], 35) := by decide +kernel
theorem dX5_ofOccurrence_36 : decode cX5_ofOccurrence 36 = .ok (.aload_n 0, 1) := by decide +kernel
theorem dX5_ofOccurrence_37 : decode cX5_ofOccurrence 37 = .ok (.getfield 9, 3) := by decide +kernel
theorem dX5_ofOccurrence_40 : decode cX5_ofOccurrence 40 = .ok (.iload_n 1, 1) := by decide +kernel
theorem dX5_ofOccurrence_41 : decode cX5_ofOccurrence 41 = .ok (.iaload, 1) := by decide +kernel
theorem dX5_ofOccurrence_42 : decode cX5_ofOccurrence 42 = .ok (.ireturn, 1) := by decide +kernel
theorem dX5_ofOccurrence_43 : decode cX5_ofOccurrence 43 = .ok (.aload_n 0, 1) := by decide +kernel
theorem dX5_ofOccurrence_44 : decode cX5_ofOccurrence 44 = .ok (.getfield 15, 3) := by decide +kernel
theorem dX5_ofOccurrence_47 : decode cX5_ofOccurrence 47 = .ok (.iload_n 1, 1) := by decide +kernel
theorem dX5_ofOccurrence_48 : decode cX5_ofOccurrence 48 = .ok (.iaload, 1) := by decide +kernel
theorem dX5_ofOccurrence_49 : decode cX5_ofOccurrence 49 = .ok (.ireturn, 1) := by decide +kernel
theorem dX5_ofOccurrence_50 : decode cX5_ofOccurrence 50 = .ok (.aload_n 0, 1) := by decide +kernel
theorem dX5_ofOccurrence_51 : decode cX5_ofOccurrence 51 = .ok (.iload_n 1, 1) := by decide +kernel
theorem dX5_ofOccurrence_52 : decode cX5_ofOccurrence 52 = .ok (.invokevirtual 91, 3) := by decide +kernel
theorem dX5_ofOccurrence_55 : decode cX5_ofOccurrence 55 = .ok (.ireturn, 1) := by decide +kernel
theorem dX5_ofOccurrence_56 : decode cX5_ofOccurrence 56 = .ok (.aload_n 0, 1) := by decide +kernel
theorem dX5_ofOccurrence_57 : decode cX5_ofOccurrence 57 = .ok (.getfield 21, 3) := by decide +kernel
theorem dX5_ofOccurrence_60 : decode cX5_ofOccurrence 60 = .ok (.iload_n 1, 1) := by decide +kernel
theorem dX5_ofOccurrence_61 : decode cX5_ofOccurrence 61 = .ok (.iaload, 1) := by decide +kernel
theorem dX5_ofOccurrence_62 : decode cX5_ofOccurrence 62 = .ok (.ireturn, 1) := by decide +kernel
theorem dX5_ofOccurrence_63 : decode cX5_ofOccurrence 63 = .ok (.aload_n 0, 1) := by decide +kernel
theorem dX5_ofOccurrence_64 : decode cX5_ofOccurrence 64 = .ok (.getfield 24, 3) := by decide +kernel
theorem dX5_ofOccurrence_67 : decode cX5_ofOccurrence 67 = .ok (.iload_n 1, 1) := by decide +kernel
theorem dX5_ofOccurrence_68 : decode cX5_ofOccurrence 68 = .ok (.iaload, 1) := by decide +kernel
theorem dX5_ofOccurrence_69 : decode cX5_ofOccurrence 69 = .ok (.ireturn, 1) := by decide +kernel
theorem dX5_ofOccurrence_70 : decode cX5_ofOccurrence 70 = .ok (.aload_n 0, 1) := by decide +kernel
theorem dX5_ofOccurrence_71 : decode cX5_ofOccurrence 71 = .ok (.getfield 18, 3) := by decide +kernel
theorem dX5_ofOccurrence_74 : decode cX5_ofOccurrence 74 = .ok (.iload_n 1, 1) := by decide +kernel
theorem dX5_ofOccurrence_75 : decode cX5_ofOccurrence 75 = .ok (.iaload, 1) := by decide +kernel
theorem dX5_ofOccurrence_76 : decode cX5_ofOccurrence 76 = .ok (.ireturn, 1) := by decide +kernel
theorem dX5_ofLayer_0 : decode cX5_ofLayer 0 = .ok (.iload_n 1, 1) := by decide +kernel
theorem dX5_ofLayer_1 : decode cX5_ofLayer 1 = .ok (.iload_n 2, 1) := by decide +kernel
theorem dX5_ofLayer_2 : decode cX5_ofLayer 2 = .ok (.invokestatic 87, 3) := by decide +kernel
theorem dX5_ofLayer_5 : decode cX5_ofLayer 5 = .ok (.istore 4, 2) := by decide +kernel
theorem dX5_ofLayer_7 : decode cX5_ofLayer 7 = .ok (.iload_n 3, 1) := by decide +kernel
theorem dX5_ofLayer_8 : decode cX5_ofLayer 8 = .ok (.tableswitch 64 0 3 #[32, 40, 48, 56], 32) := by decide +kernel
theorem dX5_ofLayer_40 : decode cX5_ofLayer 40 = .ok (.aload_n 0, 1) := by decide +kernel
theorem dX5_ofLayer_41 : decode cX5_ofLayer 41 = .ok (.getfield 27, 3) := by decide +kernel
theorem dX5_ofLayer_44 : decode cX5_ofLayer 44 = .ok (.iload 4, 2) := by decide +kernel
theorem dX5_ofLayer_46 : decode cX5_ofLayer 46 = .ok (.iaload, 1) := by decide +kernel
theorem dX5_ofLayer_47 : decode cX5_ofLayer 47 = .ok (.ireturn, 1) := by decide +kernel
theorem dX5_ofLayer_48 : decode cX5_ofLayer 48 = .ok (.aload_n 0, 1) := by decide +kernel
theorem dX5_ofLayer_49 : decode cX5_ofLayer 49 = .ok (.getfield 30, 3) := by decide +kernel
theorem dX5_ofLayer_52 : decode cX5_ofLayer 52 = .ok (.iload 4, 2) := by decide +kernel
theorem dX5_ofLayer_54 : decode cX5_ofLayer 54 = .ok (.iaload, 1) := by decide +kernel
theorem dX5_ofLayer_55 : decode cX5_ofLayer 55 = .ok (.ireturn, 1) := by decide +kernel
theorem dX5_ofLayer_56 : decode cX5_ofLayer 56 = .ok (.aload_n 0, 1) := by decide +kernel
theorem dX5_ofLayer_57 : decode cX5_ofLayer 57 = .ok (.getfield 33, 3) := by decide +kernel
theorem dX5_ofLayer_60 : decode cX5_ofLayer 60 = .ok (.iload 4, 2) := by decide +kernel
theorem dX5_ofLayer_62 : decode cX5_ofLayer 62 = .ok (.iaload, 1) := by decide +kernel
theorem dX5_ofLayer_63 : decode cX5_ofLayer 63 = .ok (.ireturn, 1) := by decide +kernel
theorem dX5_ofLayer_64 : decode cX5_ofLayer 64 = .ok (.aload_n 0, 1) := by decide +kernel
theorem dX5_ofLayer_65 : decode cX5_ofLayer 65 = .ok (.getfield 36, 3) := by decide +kernel
theorem dX5_ofLayer_68 : decode cX5_ofLayer 68 = .ok (.iload 4, 2) := by decide +kernel
theorem dX5_ofLayer_70 : decode cX5_ofLayer 70 = .ok (.iaload, 1) := by decide +kernel
theorem dX5_ofLayer_71 : decode cX5_ofLayer 71 = .ok (.ireturn, 1) := by decide +kernel
theorem dX5_ofLayer_72 : decode cX5_ofLayer 72 = .ok (.aload_n 0, 1) := by decide +kernel
theorem dX5_ofLayer_73 : decode cX5_ofLayer 73 = .ok (.getfield 39, 3) := by decide +kernel
theorem dX5_ofLayer_76 : decode cX5_ofLayer 76 = .ok (.iload 4, 2) := by decide +kernel
theorem dX5_ofLayer_78 : decode cX5_ofLayer 78 = .ok (.iaload, 1) := by decide +kernel
theorem dX5_ofLayer_79 : decode cX5_ofLayer 79 = .ok (.ireturn, 1) := by decide +kernel
theorem dX5_totalGround_0 : decode cX5_totalGround 0 = .ok (.aload_n 0, 1) := by decide +kernel
theorem dX5_totalGround_1 : decode cX5_totalGround 1 = .ok (.getfield 9, 3) := by decide +kernel
theorem dX5_totalGround_4 : decode cX5_totalGround 4 = .ok (.aload_n 0, 1) := by decide +kernel
theorem dX5_totalGround_5 : decode cX5_totalGround 5 = .ok (.getfield 48, 3) := by decide +kernel
theorem dX5_totalGround_8 : decode cX5_totalGround 8 = .ok (.invokestatic 108, 3) := by decide +kernel
theorem dX5_totalGround_11 : decode cX5_totalGround 11 = .ok (.ireturn, 1) := by decide +kernel
theorem dX5_totalQuota_0 : decode cX5_totalQuota 0 = .ok (.aload_n 0, 1) := by decide +kernel
theorem dX5_totalQuota_1 : decode cX5_totalQuota 1 = .ok (.getfield 15, 3) := by decide +kernel
theorem dX5_totalQuota_4 : decode cX5_totalQuota 4 = .ok (.aload_n 0, 1) := by decide +kernel
theorem dX5_totalQuota_5 : decode cX5_totalQuota 5 = .ok (.getfield 48, 3) := by decide +kernel
theorem dX5_totalQuota_8 : decode cX5_totalQuota 8 = .ok (.invokestatic 108, 3) := by decide +kernel
theorem dX5_totalQuota_11 : decode cX5_totalQuota 11 = .ok (.ireturn, 1) := by decide +kernel
theorem dX5_totalPaid_0 : decode cX5_totalPaid 0 = .ok (.aload_n 0, 1) := by decide +kernel
theorem dX5_totalPaid_1 : decode cX5_totalPaid 1 = .ok (.getfield 21, 3) := by decide +kernel
theorem dX5_totalPaid_4 : decode cX5_totalPaid 4 = .ok (.aload_n 0, 1) := by decide +kernel
theorem dX5_totalPaid_5 : decode cX5_totalPaid 5 = .ok (.getfield 48, 3) := by decide +kernel
theorem dX5_totalPaid_8 : decode cX5_totalPaid 8 = .ok (.invokestatic 108, 3) := by decide +kernel
theorem dX5_totalPaid_11 : decode cX5_totalPaid 11 = .ok (.ireturn, 1) := by decide +kernel
theorem dX5_totalCharged_0 : decode cX5_totalCharged 0 = .ok (.aload_n 0, 1) := by decide +kernel
theorem dX5_totalCharged_1 : decode cX5_totalCharged 1 = .ok (.getfield 24, 3) := by decide +kernel
theorem dX5_totalCharged_4 : decode cX5_totalCharged 4 = .ok (.aload_n 0, 1) := by decide +kernel
theorem dX5_totalCharged_5 : decode cX5_totalCharged 5 = .ok (.getfield 48, 3) := by decide +kernel
theorem dX5_totalCharged_8 : decode cX5_totalCharged 8 = .ok (.invokestatic 108, 3) := by decide +kernel
theorem dX5_totalCharged_11 : decode cX5_totalCharged 11 = .ok (.ireturn, 1) := by decide +kernel
theorem dX5_borneBy_0 : decode cX5_borneBy 0 = .ok (.iconst 0, 1) := by decide +kernel
theorem dX5_borneBy_1 : decode cX5_borneBy 1 = .ok (.istore_n 3, 1) := by decide +kernel
theorem dX5_borneBy_2 : decode cX5_borneBy 2 = .ok (.iconst 0, 1) := by decide +kernel
theorem dX5_borneBy_3 : decode cX5_borneBy 3 = .ok (.istore 4, 2) := by decide +kernel
theorem dX5_borneBy_5 : decode cX5_borneBy 5 = .ok (.iload 4, 2) := by decide +kernel
theorem dX5_borneBy_7 : decode cX5_borneBy 7 = .ok (.aload_n 0, 1) := by decide +kernel
theorem dX5_borneBy_8 : decode cX5_borneBy 8 = .ok (.getfield 48, 3) := by decide +kernel
theorem dX5_borneBy_11 : decode cX5_borneBy 11 = .ok (.if_icmp .ge 28, 3) := by decide +kernel
theorem dX5_borneBy_14 : decode cX5_borneBy 14 = .ok (.iload_n 3, 1) := by decide +kernel
theorem dX5_borneBy_15 : decode cX5_borneBy 15 = .ok (.iload_n 2, 1) := by decide +kernel
theorem dX5_borneBy_16 : decode cX5_borneBy 16 = .ok (.aload_n 0, 1) := by decide +kernel
theorem dX5_borneBy_17 : decode cX5_borneBy 17 = .ok (.getfield 30, 3) := by decide +kernel
theorem dX5_borneBy_20 : decode cX5_borneBy 20 = .ok (.iload_n 1, 1) := by decide +kernel
theorem dX5_borneBy_21 : decode cX5_borneBy 21 = .ok (.iload 4, 2) := by decide +kernel
theorem dX5_borneBy_23 : decode cX5_borneBy 23 = .ok (.invokestatic 87, 3) := by decide +kernel
theorem dX5_borneBy_26 : decode cX5_borneBy 26 = .ok (.iaload, 1) := by decide +kernel
theorem dX5_borneBy_27 : decode cX5_borneBy 27 = .ok (.imul, 1) := by decide +kernel
theorem dX5_borneBy_28 : decode cX5_borneBy 28 = .ok (.bipush 100, 2) := by decide +kernel
theorem dX5_borneBy_30 : decode cX5_borneBy 30 = .ok (.idiv, 1) := by decide +kernel
theorem dX5_borneBy_31 : decode cX5_borneBy 31 = .ok (.iadd, 1) := by decide +kernel
theorem dX5_borneBy_32 : decode cX5_borneBy 32 = .ok (.istore_n 3, 1) := by decide +kernel
theorem dX5_borneBy_33 : decode cX5_borneBy 33 = .ok (.iinc 4 1, 3) := by decide +kernel
theorem dX5_borneBy_36 : decode cX5_borneBy 36 = .ok (.goto (-31), 3) := by decide +kernel
theorem dX5_borneBy_39 : decode cX5_borneBy 39 = .ok (.iload_n 3, 1) := by decide +kernel
theorem dX5_borneBy_40 : decode cX5_borneBy 40 = .ok (.ireturn, 1) := by decide +kernel
theorem dX6_init_0 : decode cX6_init 0 = .ok (.aload_n 0, 1) := by decide +kernel
theorem dX6_init_1 : decode cX6_init 1 = .ok (.invokespecial 3, 3) := by decide +kernel
theorem dX6_init_4 : decode cX6_init 4 = .ok (.aload_n 0, 1) := by decide +kernel
theorem dX6_init_5 : decode cX6_init 5 = .ok (.bipush 6, 2) := by decide +kernel
theorem dX6_init_7 : decode cX6_init 7 = .ok (.newarray .int, 2) := by decide +kernel
theorem dX6_init_9 : decode cX6_init 9 = .ok (.putfield 9, 3) := by decide +kernel
theorem dX6_init_12 : decode cX6_init 12 = .ok (.aload_n 0, 1) := by decide +kernel
theorem dX6_init_13 : decode cX6_init 13 = .ok (.bipush 6, 2) := by decide +kernel
theorem dX6_init_15 : decode cX6_init 15 = .ok (.newarray .int, 2) := by decide +kernel
theorem dX6_init_17 : decode cX6_init 17 = .ok (.putfield 15, 3) := by decide +kernel
theorem dX6_init_20 : decode cX6_init 20 = .ok (.aload_n 0, 1) := by decide +kernel
theorem dX6_init_21 : decode cX6_init 21 = .ok (.bipush 60, 2) := by decide +kernel
theorem dX6_init_23 : decode cX6_init 23 = .ok (.newarray .int, 2) := by decide +kernel
theorem dX6_init_25 : decode cX6_init 25 = .ok (.putfield 18, 3) := by decide +kernel
theorem dX6_init_28 : decode cX6_init 28 = .ok (.aload_n 0, 1) := by decide +kernel
theorem dX6_init_29 : decode cX6_init 29 = .ok (.bipush 60, 2) := by decide +kernel
theorem dX6_init_31 : decode cX6_init 31 = .ok (.newarray .int, 2) := by decide +kernel
theorem dX6_init_33 : decode cX6_init 33 = .ok (.putfield 21, 3) := by decide +kernel
theorem dX6_init_36 : decode cX6_init 36 = .ok (.aload_n 0, 1) := by decide +kernel
theorem dX6_init_37 : decode cX6_init 37 = .ok (.bipush 60, 2) := by decide +kernel
theorem dX6_init_39 : decode cX6_init 39 = .ok (.newarray .int, 2) := by decide +kernel
theorem dX6_init_41 : decode cX6_init 41 = .ok (.putfield 24, 3) := by decide +kernel
theorem dX6_init_44 : decode cX6_init 44 = .ok (.aload_n 0, 1) := by decide +kernel
theorem dX6_init_45 : decode cX6_init 45 = .ok (.bipush 60, 2) := by decide +kernel
theorem dX6_init_47 : decode cX6_init 47 = .ok (.newarray .int, 2) := by decide +kernel
theorem dX6_init_49 : decode cX6_init 49 = .ok (.putfield 27, 3) := by decide +kernel
theorem dX6_init_52 : decode cX6_init 52 = .ok (.return_, 1) := by decide +kernel
theorem dX6_has_0 : decode cX6_has 0 = .ok (.iload_n 1, 1) := by decide +kernel
theorem dX6_has_1 : decode cX6_has 1 = .ok (.ifCond .lt 15, 3) := by decide +kernel
theorem dX6_has_4 : decode cX6_has 4 = .ok (.iload_n 1, 1) := by decide +kernel
theorem dX6_has_5 : decode cX6_has 5 = .ok (.aload_n 0, 1) := by decide +kernel
theorem dX6_has_6 : decode cX6_has 6 = .ok (.getfield 30, 3) := by decide +kernel
theorem dX6_has_9 : decode cX6_has 9 = .ok (.if_icmp .ge 7, 3) := by decide +kernel
theorem dX6_has_12 : decode cX6_has 12 = .ok (.iconst 1, 1) := by decide +kernel
theorem dX6_has_13 : decode cX6_has 13 = .ok (.goto 4, 3) := by decide +kernel
theorem dX6_has_16 : decode cX6_has 16 = .ok (.iconst 0, 1) := by decide +kernel
theorem dX6_has_17 : decode cX6_has 17 = .ok (.ireturn, 1) := by decide +kernel
theorem dX6_isFull_0 : decode cX6_isFull 0 = .ok (.aload_n 0, 1) := by decide +kernel
theorem dX6_isFull_1 : decode cX6_isFull 1 = .ok (.getfield 30, 3) := by decide +kernel
theorem dX6_isFull_4 : decode cX6_isFull 4 = .ok (.bipush 6, 2) := by decide +kernel
theorem dX6_isFull_6 : decode cX6_isFull 6 = .ok (.if_icmp .lt 7, 3) := by decide +kernel
theorem dX6_isFull_9 : decode cX6_isFull 9 = .ok (.iconst 1, 1) := by decide +kernel
theorem dX6_isFull_10 : decode cX6_isFull 10 = .ok (.goto 4, 3) := by decide +kernel
theorem dX6_isFull_13 : decode cX6_isFull 13 = .ok (.iconst 0, 1) := by decide +kernel
theorem dX6_isFull_14 : decode cX6_isFull 14 = .ok (.ireturn, 1) := by decide +kernel
theorem dX6_isFullOfReadings_0 : decode cX6_isFullOfReadings 0 = .ok (.aload_n 0, 1) := by decide +kernel
theorem dX6_isFullOfReadings_1 : decode cX6_isFullOfReadings 1 = .ok (.getfield 34, 3) := by decide +kernel
theorem dX6_isFullOfReadings_4 : decode cX6_isFullOfReadings 4 = .ok (.bipush 60, 2) := by decide +kernel
theorem dX6_isFullOfReadings_6 : decode cX6_isFullOfReadings 6 = .ok (.if_icmp .lt 7, 3) := by decide +kernel
theorem dX6_isFullOfReadings_9 : decode cX6_isFullOfReadings 9 = .ok (.iconst 1, 1) := by decide +kernel
theorem dX6_isFullOfReadings_10 : decode cX6_isFullOfReadings 10 = .ok (.goto 4, 3) := by decide +kernel
theorem dX6_isFullOfReadings_13 : decode cX6_isFullOfReadings 13 = .ok (.iconst 0, 1) := by decide +kernel
theorem dX6_isFullOfReadings_14 : decode cX6_isFullOfReadings 14 = .ok (.ireturn, 1) := by decide +kernel
theorem dX6_add_0 : decode cX6_add 0 = .ok (.aload_n 0, 1) := by decide +kernel
theorem dX6_add_1 : decode cX6_add 1 = .ok (.getfield 9, 3) := by decide +kernel
theorem dX6_add_4 : decode cX6_add 4 = .ok (.aload_n 0, 1) := by decide +kernel
theorem dX6_add_5 : decode cX6_add 5 = .ok (.getfield 30, 3) := by decide +kernel
theorem dX6_add_8 : decode cX6_add 8 = .ok (.iload_n 1, 1) := by decide +kernel
theorem dX6_add_9 : decode cX6_add 9 = .ok (.iastore, 1) := by decide +kernel
theorem dX6_add_10 : decode cX6_add 10 = .ok (.aload_n 0, 1) := by decide +kernel
theorem dX6_add_11 : decode cX6_add 11 = .ok (.getfield 15, 3) := by decide +kernel
theorem dX6_add_14 : decode cX6_add 14 = .ok (.aload_n 0, 1) := by decide +kernel
theorem dX6_add_15 : decode cX6_add 15 = .ok (.getfield 30, 3) := by decide +kernel
theorem dX6_add_18 : decode cX6_add 18 = .ok (.sipush 2200, 3) := by decide +kernel
theorem dX6_add_21 : decode cX6_add 21 = .ok (.iastore, 1) := by decide +kernel
theorem dX6_add_22 : decode cX6_add 22 = .ok (.aload_n 0, 1) := by decide +kernel
theorem dX6_add_23 : decode cX6_add 23 = .ok (.dup, 1) := by decide +kernel
theorem dX6_add_24 : decode cX6_add 24 = .ok (.getfield 30, 3) := by decide +kernel
theorem dX6_add_27 : decode cX6_add 27 = .ok (.iconst 1, 1) := by decide +kernel
theorem dX6_add_28 : decode cX6_add 28 = .ok (.iadd, 1) := by decide +kernel
theorem dX6_add_29 : decode cX6_add 29 = .ok (.putfield 30, 3) := by decide +kernel
theorem dX6_add_32 : decode cX6_add 32 = .ok (.aload_n 0, 1) := by decide +kernel
theorem dX6_add_33 : decode cX6_add 33 = .ok (.getfield 30, 3) := by decide +kernel
theorem dX6_add_36 : decode cX6_add 36 = .ok (.iconst 1, 1) := by decide +kernel
theorem dX6_add_37 : decode cX6_add 37 = .ok (.isub, 1) := by decide +kernel
theorem dX6_add_38 : decode cX6_add 38 = .ok (.ireturn, 1) := by decide +kernel
theorem dX6_addReading_0 : decode cX6_addReading 0 = .ok (.aload_n 0, 1) := by decide +kernel
theorem dX6_addReading_1 : decode cX6_addReading 1 = .ok (.getfield 18, 3) := by decide +kernel
theorem dX6_addReading_4 : decode cX6_addReading 4 = .ok (.aload_n 0, 1) := by decide +kernel
theorem dX6_addReading_5 : decode cX6_addReading 5 = .ok (.getfield 34, 3) := by decide +kernel
theorem dX6_addReading_8 : decode cX6_addReading 8 = .ok (.iload_n 1, 1) := by decide +kernel
theorem dX6_addReading_9 : decode cX6_addReading 9 = .ok (.iastore, 1) := by decide +kernel
theorem dX6_addReading_10 : decode cX6_addReading 10 = .ok (.aload_n 0, 1) := by decide +kernel
theorem dX6_addReading_11 : decode cX6_addReading 11 = .ok (.getfield 21, 3) := by decide +kernel
theorem dX6_addReading_14 : decode cX6_addReading 14 = .ok (.aload_n 0, 1) := by decide +kernel
theorem dX6_addReading_15 : decode cX6_addReading 15 = .ok (.getfield 34, 3) := by decide +kernel
theorem dX6_addReading_18 : decode cX6_addReading 18 = .ok (.iload_n 2, 1) := by decide +kernel
theorem dX6_addReading_19 : decode cX6_addReading 19 = .ok (.iastore, 1) := by decide +kernel
theorem dX6_addReading_20 : decode cX6_addReading 20 = .ok (.aload_n 0, 1) := by decide +kernel
theorem dX6_addReading_21 : decode cX6_addReading 21 = .ok (.getfield 24, 3) := by decide +kernel
theorem dX6_addReading_24 : decode cX6_addReading 24 = .ok (.aload_n 0, 1) := by decide +kernel
theorem dX6_addReading_25 : decode cX6_addReading 25 = .ok (.getfield 34, 3) := by decide +kernel
theorem dX6_addReading_28 : decode cX6_addReading 28 = .ok (.iload_n 3, 1) := by decide +kernel
theorem dX6_addReading_29 : decode cX6_addReading 29 = .ok (.iastore, 1) := by decide +kernel
theorem dX6_addReading_30 : decode cX6_addReading 30 = .ok (.aload_n 0, 1) := by decide +kernel
theorem dX6_addReading_31 : decode cX6_addReading 31 = .ok (.getfield 27, 3) := by decide +kernel
theorem dX6_addReading_34 : decode cX6_addReading 34 = .ok (.aload_n 0, 1) := by decide +kernel
theorem dX6_addReading_35 : decode cX6_addReading 35 = .ok (.getfield 34, 3) := by decide +kernel
theorem dX6_addReading_38 : decode cX6_addReading 38 = .ok (.iload 4, 2) := by decide +kernel
theorem dX6_addReading_40 : decode cX6_addReading 40 = .ok (.iastore, 1) := by decide +kernel
theorem dX6_addReading_41 : decode cX6_addReading 41 = .ok (.aload_n 0, 1) := by decide +kernel
theorem dX6_addReading_42 : decode cX6_addReading 42 = .ok (.dup, 1) := by decide +kernel
theorem dX6_addReading_43 : decode cX6_addReading 43 = .ok (.getfield 34, 3) := by decide +kernel
theorem dX6_addReading_46 : decode cX6_addReading 46 = .ok (.iconst 1, 1) := by decide +kernel
theorem dX6_addReading_47 : decode cX6_addReading 47 = .ok (.iadd, 1) := by decide +kernel
theorem dX6_addReading_48 : decode cX6_addReading 48 = .ok (.putfield 34, 3) := by decide +kernel
theorem dX6_addReading_51 : decode cX6_addReading 51 = .ok (.aload_n 0, 1) := by decide +kernel
theorem dX6_addReading_52 : decode cX6_addReading 52 = .ok (.getfield 34, 3) := by decide +kernel
theorem dX6_addReading_55 : decode cX6_addReading 55 = .ok (.ireturn, 1) := by decide +kernel
theorem dX6_hasFailedBy_0 : decode cX6_hasFailedBy 0 = .ok (.aload_n 0, 1) := by decide +kernel
theorem dX6_hasFailedBy_1 : decode cX6_hasFailedBy 1 = .ok (.getfield 15, 3) := by decide +kernel
theorem dX6_hasFailedBy_4 : decode cX6_hasFailedBy 4 = .ok (.iload_n 1, 1) := by decide +kernel
theorem dX6_hasFailedBy_5 : decode cX6_hasFailedBy 5 = .ok (.iaload, 1) := by decide +kernel
theorem dX6_hasFailedBy_6 : decode cX6_hasFailedBy 6 = .ok (.iload_n 2, 1) := by decide +kernel
theorem dX6_hasFailedBy_7 : decode cX6_hasFailedBy 7 = .ok (.if_icmp .gt 7, 3) := by decide +kernel
theorem dX6_hasFailedBy_10 : decode cX6_hasFailedBy 10 = .ok (.iconst 1, 1) := by decide +kernel
theorem dX6_hasFailedBy_11 : decode cX6_hasFailedBy 11 = .ok (.goto 4, 3) := by decide +kernel
theorem dX6_hasFailedBy_14 : decode cX6_hasFailedBy 14 = .ok (.iconst 0, 1) := by decide +kernel
theorem dX6_hasFailedBy_15 : decode cX6_hasFailedBy 15 = .ok (.ireturn, 1) := by decide +kernel
theorem dX6_failFrom_0 : decode cX6_failFrom 0 = .ok (.aload_n 0, 1) := by decide +kernel
theorem dX6_failFrom_1 : decode cX6_failFrom 1 = .ok (.getfield 15, 3) := by decide +kernel
theorem dX6_failFrom_4 : decode cX6_failFrom 4 = .ok (.iload_n 1, 1) := by decide +kernel
theorem dX6_failFrom_5 : decode cX6_failFrom 5 = .ok (.iload_n 2, 1) := by decide +kernel
theorem dX6_failFrom_6 : decode cX6_failFrom 6 = .ok (.iastore, 1) := by decide +kernel
theorem dX6_failFrom_7 : decode cX6_failFrom 7 = .ok (.iconst 0, 1) := by decide +kernel
theorem dX6_failFrom_8 : decode cX6_failFrom 8 = .ok (.istore_n 3, 1) := by decide +kernel
theorem dX6_failFrom_9 : decode cX6_failFrom 9 = .ok (.iconst 0, 1) := by decide +kernel
theorem dX6_failFrom_10 : decode cX6_failFrom 10 = .ok (.istore 4, 2) := by decide +kernel
theorem dX6_failFrom_12 : decode cX6_failFrom 12 = .ok (.iload 4, 2) := by decide +kernel
theorem dX6_failFrom_14 : decode cX6_failFrom 14 = .ok (.aload_n 0, 1) := by decide +kernel
theorem dX6_failFrom_15 : decode cX6_failFrom 15 = .ok (.getfield 34, 3) := by decide +kernel
theorem dX6_failFrom_18 : decode cX6_failFrom 18 = .ok (.if_icmp .ge 22, 3) := by decide +kernel
theorem dX6_failFrom_21 : decode cX6_failFrom 21 = .ok (.aload_n 0, 1) := by decide +kernel
theorem dX6_failFrom_22 : decode cX6_failFrom 22 = .ok (.iload 4, 2) := by decide +kernel
theorem dX6_failFrom_24 : decode cX6_failFrom 24 = .ok (.iload_n 1, 1) := by decide +kernel
theorem dX6_failFrom_25 : decode cX6_failFrom 25 = .ok (.invokevirtual 37, 3) := by decide +kernel
theorem dX6_failFrom_28 : decode cX6_failFrom 28 = .ok (.ifCond .eq 6, 3) := by decide +kernel
theorem dX6_failFrom_31 : decode cX6_failFrom 31 = .ok (.iinc 3 1, 3) := by decide +kernel
theorem dX6_failFrom_34 : decode cX6_failFrom 34 = .ok (.iinc 4 1, 3) := by decide +kernel
theorem dX6_failFrom_37 : decode cX6_failFrom 37 = .ok (.goto (-25), 3) := by decide +kernel
theorem dX6_failFrom_40 : decode cX6_failFrom 40 = .ok (.iload_n 3, 1) := by decide +kernel
theorem dX6_failFrom_41 : decode cX6_failFrom 41 = .ok (.ireturn, 1) := by decide +kernel
theorem dX6_isCounting_0 : decode cX6_isCounting 0 = .ok (.aload_n 0, 1) := by decide +kernel
theorem dX6_isCounting_1 : decode cX6_isCounting 1 = .ok (.getfield 18, 3) := by decide +kernel
theorem dX6_isCounting_4 : decode cX6_isCounting 4 = .ok (.iload_n 1, 1) := by decide +kernel
theorem dX6_isCounting_5 : decode cX6_isCounting 5 = .ok (.iaload, 1) := by decide +kernel
theorem dX6_isCounting_6 : decode cX6_isCounting 6 = .ok (.iload_n 2, 1) := by decide +kernel
theorem dX6_isCounting_7 : decode cX6_isCounting 7 = .ok (.if_icmp .ne 21, 3) := by decide +kernel
theorem dX6_isCounting_10 : decode cX6_isCounting 10 = .ok (.aload_n 0, 1) := by decide +kernel
theorem dX6_isCounting_11 : decode cX6_isCounting 11 = .ok (.iload_n 2, 1) := by decide +kernel
theorem dX6_isCounting_12 : decode cX6_isCounting 12 = .ok (.aload_n 0, 1) := by decide +kernel
theorem dX6_isCounting_13 : decode cX6_isCounting 13 = .ok (.getfield 21, 3) := by decide +kernel
theorem dX6_isCounting_16 : decode cX6_isCounting 16 = .ok (.iload_n 1, 1) := by decide +kernel
theorem dX6_isCounting_17 : decode cX6_isCounting 17 = .ok (.iaload, 1) := by decide +kernel
theorem dX6_isCounting_18 : decode cX6_isCounting 18 = .ok (.invokevirtual 41, 3) := by decide +kernel
theorem dX6_isCounting_21 : decode cX6_isCounting 21 = .ok (.ifCond .ne 7, 3) := by decide +kernel
theorem dX6_isCounting_24 : decode cX6_isCounting 24 = .ok (.iconst 1, 1) := by decide +kernel
theorem dX6_isCounting_25 : decode cX6_isCounting 25 = .ok (.goto 4, 3) := by decide +kernel
theorem dX6_isCounting_28 : decode cX6_isCounting 28 = .ok (.iconst 0, 1) := by decide +kernel
theorem dX6_isCounting_29 : decode cX6_isCounting 29 = .ok (.ireturn, 1) := by decide +kernel
theorem dX6_isInBox_0 : decode cX6_isInBox 0 = .ok (.iload_n 2, 1) := by decide +kernel
theorem dX6_isInBox_1 : decode cX6_isInBox 1 = .ok (.aload_n 0, 1) := by decide +kernel
theorem dX6_isInBox_2 : decode cX6_isInBox 2 = .ok (.getfield 9, 3) := by decide +kernel
theorem dX6_isInBox_5 : decode cX6_isInBox 5 = .ok (.iload_n 1, 1) := by decide +kernel
theorem dX6_isInBox_6 : decode cX6_isInBox 6 = .ok (.iaload, 1) := by decide +kernel
theorem dX6_isInBox_7 : decode cX6_isInBox 7 = .ok (.ishr, 1) := by decide +kernel
theorem dX6_isInBox_8 : decode cX6_isInBox 8 = .ok (.iconst 1, 1) := by decide +kernel
theorem dX6_isInBox_9 : decode cX6_isInBox 9 = .ok (.iand, 1) := by decide +kernel
theorem dX6_isInBox_10 : decode cX6_isInBox 10 = .ok (.iconst 1, 1) := by decide +kernel
theorem dX6_isInBox_11 : decode cX6_isInBox 11 = .ok (.if_icmp .ne 7, 3) := by decide +kernel
theorem dX6_isInBox_14 : decode cX6_isInBox 14 = .ok (.iconst 1, 1) := by decide +kernel
theorem dX6_isInBox_15 : decode cX6_isInBox 15 = .ok (.goto 4, 3) := by decide +kernel
theorem dX6_isInBox_18 : decode cX6_isInBox 18 = .ok (.iconst 0, 1) := by decide +kernel
theorem dX6_isInBox_19 : decode cX6_isInBox 19 = .ok (.ireturn, 1) := by decide +kernel
theorem dX6_standInFor_0 : decode cX6_standInFor 0 = .ok (.iconst (-1), 1) := by decide +kernel
theorem dX6_standInFor_1 : decode cX6_standInFor 1 = .ok (.istore_n 3, 1) := by decide +kernel
theorem dX6_standInFor_2 : decode cX6_standInFor 2 = .ok (.bipush 7, 2) := by decide +kernel
theorem dX6_standInFor_4 : decode cX6_standInFor 4 = .ok (.istore 4, 2) := by decide +kernel
theorem dX6_standInFor_6 : decode cX6_standInFor 6 = .ok (.iconst 0, 1) := by decide +kernel
theorem dX6_standInFor_7 : decode cX6_standInFor 7 = .ok (.istore 5, 2) := by decide +kernel
theorem dX6_standInFor_9 : decode cX6_standInFor 9 = .ok (.iload 5, 2) := by decide +kernel
theorem dX6_standInFor_11 : decode cX6_standInFor 11 = .ok (.aload_n 0, 1) := by decide +kernel
theorem dX6_standInFor_12 : decode cX6_standInFor 12 = .ok (.getfield 30, 3) := by decide +kernel
theorem dX6_standInFor_15 : decode cX6_standInFor 15 = .ok (.if_icmp .ge 61, 3) := by decide +kernel
theorem dX6_standInFor_18 : decode cX6_standInFor 18 = .ok (.aload_n 0, 1) := by decide +kernel
theorem dX6_standInFor_19 : decode cX6_standInFor 19 = .ok (.iload 5, 2) := by decide +kernel
theorem dX6_standInFor_21 : decode cX6_standInFor 21 = .ok (.iload_n 2, 1) := by decide +kernel
theorem dX6_standInFor_22 : decode cX6_standInFor 22 = .ok (.invokevirtual 41, 3) := by decide +kernel
theorem dX6_standInFor_25 : decode cX6_standInFor 25 = .ok (.ifCond .eq 6, 3) := by decide +kernel
theorem dX6_standInFor_28 : decode cX6_standInFor 28 = .ok (.goto 42, 3) := by decide +kernel
theorem dX6_standInFor_31 : decode cX6_standInFor 31 = .ok (.aload_n 0, 1) := by decide +kernel
theorem dX6_standInFor_32 : decode cX6_standInFor 32 = .ok (.iload 5, 2) := by decide +kernel
theorem dX6_standInFor_34 : decode cX6_standInFor 34 = .ok (.iload_n 1, 1) := by decide +kernel
theorem dX6_standInFor_35 : decode cX6_standInFor 35 = .ok (.invokevirtual 44, 3) := by decide +kernel
theorem dX6_standInFor_38 : decode cX6_standInFor 38 = .ok (.ifCond .eq 5, 3) := by decide +kernel
theorem dX6_standInFor_41 : decode cX6_standInFor 41 = .ok (.iconst (-1), 1) := by decide +kernel
theorem dX6_standInFor_42 : decode cX6_standInFor 42 = .ok (.ireturn, 1) := by decide +kernel
theorem dX6_standInFor_43 : decode cX6_standInFor 43 = .ok (.iload_n 1, 1) := by decide +kernel
theorem dX6_standInFor_44 : decode cX6_standInFor 44 = .ok (.aload_n 0, 1) := by decide +kernel
theorem dX6_standInFor_45 : decode cX6_standInFor 45 = .ok (.getfield 9, 3) := by decide +kernel
theorem dX6_standInFor_48 : decode cX6_standInFor 48 = .ok (.iload 5, 2) := by decide +kernel
theorem dX6_standInFor_50 : decode cX6_standInFor 50 = .ok (.iaload, 1) := by decide +kernel
theorem dX6_standInFor_51 : decode cX6_standInFor 51 = .ok (.invokestatic 47, 3) := by decide +kernel
theorem dX6_standInFor_54 : decode cX6_standInFor 54 = .ok (.istore 6, 2) := by decide +kernel
theorem dX6_standInFor_56 : decode cX6_standInFor 56 = .ok (.iload 6, 2) := by decide +kernel
theorem dX6_standInFor_58 : decode cX6_standInFor 58 = .ok (.iload 4, 2) := by decide +kernel
theorem dX6_standInFor_60 : decode cX6_standInFor 60 = .ok (.if_icmp .ge 10, 3) := by decide +kernel
theorem dX6_standInFor_63 : decode cX6_standInFor 63 = .ok (.iload 6, 2) := by decide +kernel
theorem dX6_standInFor_65 : decode cX6_standInFor 65 = .ok (.istore 4, 2) := by decide +kernel
theorem dX6_standInFor_67 : decode cX6_standInFor 67 = .ok (.iload 5, 2) := by decide +kernel
theorem dX6_standInFor_69 : decode cX6_standInFor 69 = .ok (.istore_n 3, 1) := by decide +kernel
theorem dX6_standInFor_70 : decode cX6_standInFor 70 = .ok (.iinc 5 1, 3) := by decide +kernel
theorem dX6_standInFor_73 : decode cX6_standInFor 73 = .ok (.goto (-64), 3) := by decide +kernel
theorem dX6_standInFor_76 : decode cX6_standInFor 76 = .ok (.iload_n 3, 1) := by decide +kernel
theorem dX6_standInFor_77 : decode cX6_standInFor 77 = .ok (.ireturn, 1) := by decide +kernel
theorem dX6_distanceTo_0 : decode cX6_distanceTo 0 = .ok (.bipush 6, 2) := by decide +kernel
theorem dX6_distanceTo_2 : decode cX6_distanceTo 2 = .ok (.istore_n 2, 1) := by decide +kernel
theorem dX6_distanceTo_3 : decode cX6_distanceTo 3 = .ok (.iconst 0, 1) := by decide +kernel
theorem dX6_distanceTo_4 : decode cX6_distanceTo 4 = .ok (.istore_n 3, 1) := by decide +kernel
theorem dX6_distanceTo_5 : decode cX6_distanceTo 5 = .ok (.iload_n 3, 1) := by decide +kernel
theorem dX6_distanceTo_6 : decode cX6_distanceTo 6 = .ok (.bipush 15, 2) := by decide +kernel
theorem dX6_distanceTo_8 : decode cX6_distanceTo 8 = .ok (.if_icmp .gt 52, 3) := by decide +kernel
theorem dX6_distanceTo_11 : decode cX6_distanceTo 11 = .ok (.iload_n 0, 1) := by decide +kernel
theorem dX6_distanceTo_12 : decode cX6_distanceTo 12 = .ok (.iload_n 3, 1) := by decide +kernel
theorem dX6_distanceTo_13 : decode cX6_distanceTo 13 = .ok (.ishr, 1) := by decide +kernel
theorem dX6_distanceTo_14 : decode cX6_distanceTo 14 = .ok (.iconst 1, 1) := by decide +kernel
theorem dX6_distanceTo_15 : decode cX6_distanceTo 15 = .ok (.iand, 1) := by decide +kernel
theorem dX6_distanceTo_16 : decode cX6_distanceTo 16 = .ok (.iconst 1, 1) := by decide +kernel
theorem dX6_distanceTo_17 : decode cX6_distanceTo 17 = .ok (.if_icmp .ne 37, 3) := by decide +kernel
theorem dX6_distanceTo_20 : decode cX6_distanceTo 20 = .ok (.iload_n 3, 1) := by decide +kernel
theorem dX6_distanceTo_21 : decode cX6_distanceTo 21 = .ok (.iconst 4, 1) := by decide +kernel
theorem dX6_distanceTo_22 : decode cX6_distanceTo 22 = .ok (.idiv, 1) := by decide +kernel
theorem dX6_distanceTo_23 : decode cX6_distanceTo 23 = .ok (.iload_n 1, 1) := by decide +kernel
theorem dX6_distanceTo_24 : decode cX6_distanceTo 24 = .ok (.iconst 4, 1) := by decide +kernel
theorem dX6_distanceTo_25 : decode cX6_distanceTo 25 = .ok (.idiv, 1) := by decide +kernel
theorem dX6_distanceTo_26 : decode cX6_distanceTo 26 = .ok (.isub, 1) := by decide +kernel
theorem dX6_distanceTo_27 : decode cX6_distanceTo 27 = .ok (.invokestatic 51, 3) := by decide +kernel
theorem dX6_distanceTo_30 : decode cX6_distanceTo 30 = .ok (.istore 4, 2) := by decide +kernel
theorem dX6_distanceTo_32 : decode cX6_distanceTo 32 = .ok (.iload_n 3, 1) := by decide +kernel
theorem dX6_distanceTo_33 : decode cX6_distanceTo 33 = .ok (.iconst 4, 1) := by decide +kernel
theorem dX6_distanceTo_34 : decode cX6_distanceTo 34 = .ok (.irem, 1) := by decide +kernel
theorem dX6_distanceTo_35 : decode cX6_distanceTo 35 = .ok (.iload_n 1, 1) := by decide +kernel
theorem dX6_distanceTo_36 : decode cX6_distanceTo 36 = .ok (.iconst 4, 1) := by decide +kernel
theorem dX6_distanceTo_37 : decode cX6_distanceTo 37 = .ok (.irem, 1) := by decide +kernel
theorem dX6_distanceTo_38 : decode cX6_distanceTo 38 = .ok (.isub, 1) := by decide +kernel
theorem dX6_distanceTo_39 : decode cX6_distanceTo 39 = .ok (.invokestatic 51, 3) := by decide +kernel
theorem dX6_distanceTo_42 : decode cX6_distanceTo 42 = .ok (.istore 5, 2) := by decide +kernel
theorem dX6_distanceTo_44 : decode cX6_distanceTo 44 = .ok (.iload_n 2, 1) := by decide +kernel
theorem dX6_distanceTo_45 : decode cX6_distanceTo 45 = .ok (.iload 4, 2) := by decide +kernel
theorem dX6_distanceTo_47 : decode cX6_distanceTo 47 = .ok (.iload 5, 2) := by decide +kernel
theorem dX6_distanceTo_49 : decode cX6_distanceTo 49 = .ok (.iadd, 1) := by decide +kernel
theorem dX6_distanceTo_50 : decode cX6_distanceTo 50 = .ok (.invokestatic 57, 3) := by decide +kernel
theorem dX6_distanceTo_53 : decode cX6_distanceTo 53 = .ok (.istore_n 2, 1) := by decide +kernel
theorem dX6_distanceTo_54 : decode cX6_distanceTo 54 = .ok (.iinc 3 1, 3) := by decide +kernel
theorem dX6_distanceTo_57 : decode cX6_distanceTo 57 = .ok (.goto (-52), 3) := by decide +kernel
theorem dX6_distanceTo_60 : decode cX6_distanceTo 60 = .ok (.iload_n 2, 1) := by decide +kernel
theorem dX6_distanceTo_61 : decode cX6_distanceTo 61 = .ok (.ireturn, 1) := by decide +kernel
theorem dX6_greatestStrength_0 : decode cX6_greatestStrength 0 = .ok (.aload_n 0, 1) := by decide +kernel
theorem dX6_greatestStrength_1 : decode cX6_greatestStrength 1 = .ok (.iload_n 2, 1) := by decide +kernel
theorem dX6_greatestStrength_2 : decode cX6_greatestStrength 2 = .ok (.iload 4, 2) := by decide +kernel
theorem dX6_greatestStrength_4 : decode cX6_greatestStrength 4 = .ok (.invokevirtual 60, 3) := by decide +kernel
theorem dX6_greatestStrength_7 : decode cX6_greatestStrength 7 = .ok (.istore 5, 2) := by decide +kernel
theorem dX6_greatestStrength_9 : decode cX6_greatestStrength 9 = .ok (.iconst 0, 1) := by decide +kernel
theorem dX6_greatestStrength_10 : decode cX6_greatestStrength 10 = .ok (.istore 6, 2) := by decide +kernel
theorem dX6_greatestStrength_12 : decode cX6_greatestStrength 12 = .ok (.iconst 0, 1) := by decide +kernel
theorem dX6_greatestStrength_13 : decode cX6_greatestStrength 13 = .ok (.istore 7, 2) := by decide +kernel
theorem dX6_greatestStrength_15 : decode cX6_greatestStrength 15 = .ok (.iload 7, 2) := by decide +kernel
theorem dX6_greatestStrength_17 : decode cX6_greatestStrength 17 = .ok (.aload_n 0, 1) := by decide +kernel
theorem dX6_greatestStrength_18 : decode cX6_greatestStrength 18 = .ok (.getfield 30, 3) := by decide +kernel
theorem dX6_greatestStrength_21 : decode cX6_greatestStrength 21 = .ok (.if_icmp .ge 61, 3) := by decide +kernel
theorem dX6_greatestStrength_24 : decode cX6_greatestStrength 24 = .ok (.iload 5, 2) := by decide +kernel
theorem dX6_greatestStrength_26 : decode cX6_greatestStrength 26 = .ok (.iconst (-1), 1) := by decide +kernel
theorem dX6_greatestStrength_27 : decode cX6_greatestStrength 27 = .ok (.if_icmp .ne 13, 3) := by decide +kernel
theorem dX6_greatestStrength_30 : decode cX6_greatestStrength 30 = .ok (.aload_n 0, 1) := by decide +kernel
theorem dX6_greatestStrength_31 : decode cX6_greatestStrength 31 = .ok (.iload 7, 2) := by decide +kernel
theorem dX6_greatestStrength_33 : decode cX6_greatestStrength 33 = .ok (.iload_n 2, 1) := by decide +kernel
theorem dX6_greatestStrength_34 : decode cX6_greatestStrength 34 = .ok (.invokevirtual 44, 3) := by decide +kernel
theorem dX6_greatestStrength_37 : decode cX6_greatestStrength 37 = .ok (.goto 15, 3) := by decide +kernel
theorem dX6_greatestStrength_40 : decode cX6_greatestStrength 40 = .ok (.iload 7, 2) := by decide +kernel
theorem dX6_greatestStrength_42 : decode cX6_greatestStrength 42 = .ok (.iload 5, 2) := by decide +kernel
theorem dX6_greatestStrength_44 : decode cX6_greatestStrength 44 = .ok (.if_icmp .ne 7, 3) := by decide +kernel
theorem dX6_greatestStrength_47 : decode cX6_greatestStrength 47 = .ok (.iconst 1, 1) := by decide +kernel
theorem dX6_greatestStrength_48 : decode cX6_greatestStrength 48 = .ok (.goto 4, 3) := by decide +kernel
theorem dX6_greatestStrength_51 : decode cX6_greatestStrength 51 = .ok (.iconst 0, 1) := by decide +kernel
theorem dX6_greatestStrength_52 : decode cX6_greatestStrength 52 = .ok (.istore 8, 2) := by decide +kernel
theorem dX6_greatestStrength_54 : decode cX6_greatestStrength 54 = .ok (.iload 8, 2) := by decide +kernel
theorem dX6_greatestStrength_56 : decode cX6_greatestStrength 56 = .ok (.ifCond .eq 20, 3) := by decide +kernel
theorem dX6_greatestStrength_59 : decode cX6_greatestStrength 59 = .ok (.iload 6, 2) := by decide +kernel
theorem dX6_greatestStrength_61 : decode cX6_greatestStrength 61 = .ok (.aload_n 0, 1) := by decide +kernel
theorem dX6_greatestStrength_62 : decode cX6_greatestStrength 62 = .ok (.iload 7, 2) := by decide +kernel
theorem dX6_greatestStrength_64 : decode cX6_greatestStrength 64 = .ok (.iload_n 1, 1) := by decide +kernel
theorem dX6_greatestStrength_65 : decode cX6_greatestStrength 65 = .ok (.iload_n 3, 1) := by decide +kernel
theorem dX6_greatestStrength_66 : decode cX6_greatestStrength 66 = .ok (.iload 4, 2) := by decide +kernel
theorem dX6_greatestStrength_68 : decode cX6_greatestStrength 68 = .ok (.invokevirtual 63, 3) := by decide +kernel
theorem dX6_greatestStrength_71 : decode cX6_greatestStrength 71 = .ok (.invokestatic 67, 3) := by decide +kernel
theorem dX6_greatestStrength_74 : decode cX6_greatestStrength 74 = .ok (.istore 6, 2) := by decide +kernel
theorem dX6_greatestStrength_76 : decode cX6_greatestStrength 76 = .ok (.iinc 7 1, 3) := by decide +kernel
theorem dX6_greatestStrength_79 : decode cX6_greatestStrength 79 = .ok (.goto (-64), 3) := by decide +kernel
theorem dX6_greatestStrength_82 : decode cX6_greatestStrength 82 = .ok (.iload 6, 2) := by decide +kernel
theorem dX6_greatestStrength_84 : decode cX6_greatestStrength 84 = .ok (.ireturn, 1) := by decide +kernel
theorem dX6_strengthAt_0 : decode cX6_strengthAt 0 = .ok (.iconst 0, 1) := by decide +kernel
theorem dX6_strengthAt_1 : decode cX6_strengthAt 1 = .ok (.istore 5, 2) := by decide +kernel
theorem dX6_strengthAt_3 : decode cX6_strengthAt 3 = .ok (.iconst 0, 1) := by decide +kernel
theorem dX6_strengthAt_4 : decode cX6_strengthAt 4 = .ok (.istore 6, 2) := by decide +kernel
theorem dX6_strengthAt_6 : decode cX6_strengthAt 6 = .ok (.iload 6, 2) := by decide +kernel
theorem dX6_strengthAt_8 : decode cX6_strengthAt 8 = .ok (.aload_n 0, 1) := by decide +kernel
theorem dX6_strengthAt_9 : decode cX6_strengthAt 9 = .ok (.getfield 34, 3) := by decide +kernel
theorem dX6_strengthAt_12 : decode cX6_strengthAt 12 = .ok (.if_icmp .ge 79, 3) := by decide +kernel
theorem dX6_strengthAt_15 : decode cX6_strengthAt 15 = .ok (.aload_n 0, 1) := by decide +kernel
theorem dX6_strengthAt_16 : decode cX6_strengthAt 16 = .ok (.getfield 21, 3) := by decide +kernel
theorem dX6_strengthAt_19 : decode cX6_strengthAt 19 = .ok (.iload 6, 2) := by decide +kernel
theorem dX6_strengthAt_21 : decode cX6_strengthAt 21 = .ok (.iaload, 1) := by decide +kernel
theorem dX6_strengthAt_22 : decode cX6_strengthAt 22 = .ok (.iload_n 3, 1) := by decide +kernel
theorem dX6_strengthAt_23 : decode cX6_strengthAt 23 = .ok (.if_icmp .lt 19, 3) := by decide +kernel
theorem dX6_strengthAt_26 : decode cX6_strengthAt 26 = .ok (.aload_n 0, 1) := by decide +kernel
theorem dX6_strengthAt_27 : decode cX6_strengthAt 27 = .ok (.getfield 21, 3) := by decide +kernel
theorem dX6_strengthAt_30 : decode cX6_strengthAt 30 = .ok (.iload 6, 2) := by decide +kernel
theorem dX6_strengthAt_32 : decode cX6_strengthAt 32 = .ok (.iaload, 1) := by decide +kernel
theorem dX6_strengthAt_33 : decode cX6_strengthAt 33 = .ok (.iload 4, 2) := by decide +kernel
theorem dX6_strengthAt_35 : decode cX6_strengthAt 35 = .ok (.if_icmp .gt 7, 3) := by decide +kernel
theorem dX6_strengthAt_38 : decode cX6_strengthAt 38 = .ok (.iconst 1, 1) := by decide +kernel
theorem dX6_strengthAt_39 : decode cX6_strengthAt 39 = .ok (.goto 4, 3) := by decide +kernel
theorem dX6_strengthAt_42 : decode cX6_strengthAt 42 = .ok (.iconst 0, 1) := by decide +kernel
theorem dX6_strengthAt_43 : decode cX6_strengthAt 43 = .ok (.istore 7, 2) := by decide +kernel
theorem dX6_strengthAt_45 : decode cX6_strengthAt 45 = .ok (.iload 7, 2) := by decide +kernel
theorem dX6_strengthAt_47 : decode cX6_strengthAt 47 = .ok (.ifCond .eq 38, 3) := by decide +kernel
theorem dX6_strengthAt_50 : decode cX6_strengthAt 50 = .ok (.aload_n 0, 1) := by decide +kernel
theorem dX6_strengthAt_51 : decode cX6_strengthAt 51 = .ok (.getfield 24, 3) := by decide +kernel
theorem dX6_strengthAt_54 : decode cX6_strengthAt 54 = .ok (.iload 6, 2) := by decide +kernel
theorem dX6_strengthAt_56 : decode cX6_strengthAt 56 = .ok (.iaload, 1) := by decide +kernel
theorem dX6_strengthAt_57 : decode cX6_strengthAt 57 = .ok (.iload_n 2, 1) := by decide +kernel
theorem dX6_strengthAt_58 : decode cX6_strengthAt 58 = .ok (.if_icmp .ne 27, 3) := by decide +kernel
theorem dX6_strengthAt_61 : decode cX6_strengthAt 61 = .ok (.aload_n 0, 1) := by decide +kernel
theorem dX6_strengthAt_62 : decode cX6_strengthAt 62 = .ok (.iload 6, 2) := by decide +kernel
theorem dX6_strengthAt_64 : decode cX6_strengthAt 64 = .ok (.iload_n 1, 1) := by decide +kernel
theorem dX6_strengthAt_65 : decode cX6_strengthAt 65 = .ok (.invokevirtual 37, 3) := by decide +kernel
theorem dX6_strengthAt_68 : decode cX6_strengthAt 68 = .ok (.ifCond .eq 17, 3) := by decide +kernel
theorem dX6_strengthAt_71 : decode cX6_strengthAt 71 = .ok (.iload 5, 2) := by decide +kernel
theorem dX6_strengthAt_73 : decode cX6_strengthAt 73 = .ok (.aload_n 0, 1) := by decide +kernel
theorem dX6_strengthAt_74 : decode cX6_strengthAt 74 = .ok (.getfield 27, 3) := by decide +kernel
theorem dX6_strengthAt_77 : decode cX6_strengthAt 77 = .ok (.iload 6, 2) := by decide +kernel
theorem dX6_strengthAt_79 : decode cX6_strengthAt 79 = .ok (.iaload, 1) := by decide +kernel
theorem dX6_strengthAt_80 : decode cX6_strengthAt 80 = .ok (.invokestatic 67, 3) := by decide +kernel
theorem dX6_strengthAt_83 : decode cX6_strengthAt 83 = .ok (.istore 5, 2) := by decide +kernel
theorem dX6_strengthAt_85 : decode cX6_strengthAt 85 = .ok (.iinc 6 1, 3) := by decide +kernel
theorem dX6_strengthAt_88 : decode cX6_strengthAt 88 = .ok (.goto (-82), 3) := by decide +kernel
theorem dX6_strengthAt_91 : decode cX6_strengthAt 91 = .ok (.iload 5, 2) := by decide +kernel
theorem dX6_strengthAt_93 : decode cX6_strengthAt 93 = .ok (.ireturn, 1) := by decide +kernel
theorem dX7_init_0 : decode cX7_init 0 = .ok (.aload_n 0, 1) := by decide +kernel
theorem dX7_init_1 : decode cX7_init 1 = .ok (.invokespecial 3, 3) := by decide +kernel
theorem dX7_init_4 : decode cX7_init 4 = .ok (.aload_n 0, 1) := by decide +kernel
theorem dX7_init_5 : decode cX7_init 5 = .ok (.iconst 5, 1) := by decide +kernel
theorem dX7_init_6 : decode cX7_init 6 = .ok (.newarray .int, 2) := by decide +kernel
theorem dX7_init_8 : decode cX7_init 8 = .ok (.putfield 9, 3) := by decide +kernel
theorem dX7_init_11 : decode cX7_init 11 = .ok (.aload_n 0, 1) := by decide +kernel
theorem dX7_init_12 : decode cX7_init 12 = .ok (.iconst 5, 1) := by decide +kernel
theorem dX7_init_13 : decode cX7_init 13 = .ok (.newarray .int, 2) := by decide +kernel
theorem dX7_init_15 : decode cX7_init 15 = .ok (.putfield 15, 3) := by decide +kernel
theorem dX7_init_18 : decode cX7_init 18 = .ok (.aload_n 0, 1) := by decide +kernel
theorem dX7_init_19 : decode cX7_init 19 = .ok (.iconst 5, 1) := by decide +kernel
theorem dX7_init_20 : decode cX7_init 20 = .ok (.newarray .int, 2) := by decide +kernel
theorem dX7_init_22 : decode cX7_init 22 = .ok (.putfield 18, 3) := by decide +kernel
theorem dX7_init_25 : decode cX7_init 25 = .ok (.aload_n 0, 1) := by decide +kernel
theorem dX7_init_26 : decode cX7_init 26 = .ok (.iconst 5, 1) := by decide +kernel
theorem dX7_init_27 : decode cX7_init 27 = .ok (.newarray .int, 2) := by decide +kernel
theorem dX7_init_29 : decode cX7_init 29 = .ok (.putfield 21, 3) := by decide +kernel
theorem dX7_init_32 : decode cX7_init 32 = .ok (.aload_n 0, 1) := by decide +kernel
theorem dX7_init_33 : decode cX7_init 33 = .ok (.iconst 5, 1) := by decide +kernel
theorem dX7_init_34 : decode cX7_init 34 = .ok (.newarray .int, 2) := by decide +kernel
theorem dX7_init_36 : decode cX7_init 36 = .ok (.putfield 24, 3) := by decide +kernel
theorem dX7_init_39 : decode cX7_init 39 = .ok (.aload_n 0, 1) := by decide +kernel
theorem dX7_init_40 : decode cX7_init 40 = .ok (.iconst 5, 1) := by decide +kernel
theorem dX7_init_41 : decode cX7_init 41 = .ok (.newarray .int, 2) := by decide +kernel
theorem dX7_init_43 : decode cX7_init 43 = .ok (.putfield 27, 3) := by decide +kernel
theorem dX7_init_46 : decode cX7_init 46 = .ok (.return_, 1) := by decide +kernel
theorem dX7_has_0 : decode cX7_has 0 = .ok (.iload_n 1, 1) := by decide +kernel
theorem dX7_has_1 : decode cX7_has 1 = .ok (.ifCond .lt 15, 3) := by decide +kernel
theorem dX7_has_4 : decode cX7_has 4 = .ok (.iload_n 1, 1) := by decide +kernel
theorem dX7_has_5 : decode cX7_has 5 = .ok (.aload_n 0, 1) := by decide +kernel
theorem dX7_has_6 : decode cX7_has 6 = .ok (.getfield 30, 3) := by decide +kernel
theorem dX7_has_9 : decode cX7_has 9 = .ok (.if_icmp .ge 7, 3) := by decide +kernel
theorem dX7_has_12 : decode cX7_has 12 = .ok (.iconst 1, 1) := by decide +kernel
theorem dX7_has_13 : decode cX7_has 13 = .ok (.goto 4, 3) := by decide +kernel
theorem dX7_has_16 : decode cX7_has 16 = .ok (.iconst 0, 1) := by decide +kernel
theorem dX7_has_17 : decode cX7_has 17 = .ok (.ireturn, 1) := by decide +kernel
theorem dX7_isFull_0 : decode cX7_isFull 0 = .ok (.aload_n 0, 1) := by decide +kernel
theorem dX7_isFull_1 : decode cX7_isFull 1 = .ok (.getfield 30, 3) := by decide +kernel
theorem dX7_isFull_4 : decode cX7_isFull 4 = .ok (.iconst 5, 1) := by decide +kernel
theorem dX7_isFull_5 : decode cX7_isFull 5 = .ok (.if_icmp .lt 7, 3) := by decide +kernel
theorem dX7_isFull_8 : decode cX7_isFull 8 = .ok (.iconst 1, 1) := by decide +kernel
theorem dX7_isFull_9 : decode cX7_isFull 9 = .ok (.goto 4, 3) := by decide +kernel
theorem dX7_isFull_12 : decode cX7_isFull 12 = .ok (.iconst 0, 1) := by decide +kernel
theorem dX7_isFull_13 : decode cX7_isFull 13 = .ok (.ireturn, 1) := by decide +kernel
theorem dX7_changeQuota_0 : decode cX7_changeQuota 0 = .ok (.aload_n 0, 1) := by decide +kernel
theorem dX7_changeQuota_1 : decode cX7_changeQuota 1 = .ok (.getfield 34, 3) := by decide +kernel
theorem dX7_changeQuota_4 : decode cX7_changeQuota 4 = .ok (.istore_n 2, 1) := by decide +kernel
theorem dX7_changeQuota_5 : decode cX7_changeQuota 5 = .ok (.aload_n 0, 1) := by decide +kernel
theorem dX7_changeQuota_6 : decode cX7_changeQuota 6 = .ok (.iload_n 1, 1) := by decide +kernel
theorem dX7_changeQuota_7 : decode cX7_changeQuota 7 = .ok (.putfield 34, 3) := by decide +kernel
theorem dX7_changeQuota_10 : decode cX7_changeQuota 10 = .ok (.iload_n 2, 1) := by decide +kernel
theorem dX7_changeQuota_11 : decode cX7_changeQuota 11 = .ok (.ireturn, 1) := by decide +kernel
theorem dX7_add_0 : decode cX7_add 0 = .ok (.aload_n 0, 1) := by decide +kernel
theorem dX7_add_1 : decode cX7_add 1 = .ok (.getfield 9, 3) := by decide +kernel
theorem dX7_add_4 : decode cX7_add 4 = .ok (.aload_n 0, 1) := by decide +kernel
theorem dX7_add_5 : decode cX7_add 5 = .ok (.getfield 30, 3) := by decide +kernel
theorem dX7_add_8 : decode cX7_add 8 = .ok (.iload_n 1, 1) := by decide +kernel
theorem dX7_add_9 : decode cX7_add 9 = .ok (.iastore, 1) := by decide +kernel
theorem dX7_add_10 : decode cX7_add 10 = .ok (.aload_n 0, 1) := by decide +kernel
theorem dX7_add_11 : decode cX7_add 11 = .ok (.getfield 15, 3) := by decide +kernel
theorem dX7_add_14 : decode cX7_add 14 = .ok (.aload_n 0, 1) := by decide +kernel
theorem dX7_add_15 : decode cX7_add 15 = .ok (.getfield 30, 3) := by decide +kernel
theorem dX7_add_18 : decode cX7_add 18 = .ok (.iload_n 2, 1) := by decide +kernel
theorem dX7_add_19 : decode cX7_add 19 = .ok (.iastore, 1) := by decide +kernel
theorem dX7_add_20 : decode cX7_add 20 = .ok (.aload_n 0, 1) := by decide +kernel
theorem dX7_add_21 : decode cX7_add 21 = .ok (.getfield 18, 3) := by decide +kernel
theorem dX7_add_24 : decode cX7_add 24 = .ok (.aload_n 0, 1) := by decide +kernel
theorem dX7_add_25 : decode cX7_add 25 = .ok (.getfield 30, 3) := by decide +kernel
theorem dX7_add_28 : decode cX7_add 28 = .ok (.iload_n 3, 1) := by decide +kernel
theorem dX7_add_29 : decode cX7_add 29 = .ok (.iastore, 1) := by decide +kernel
theorem dX7_add_30 : decode cX7_add 30 = .ok (.aload_n 0, 1) := by decide +kernel
theorem dX7_add_31 : decode cX7_add 31 = .ok (.getfield 21, 3) := by decide +kernel
theorem dX7_add_34 : decode cX7_add 34 = .ok (.aload_n 0, 1) := by decide +kernel
theorem dX7_add_35 : decode cX7_add 35 = .ok (.getfield 30, 3) := by decide +kernel
theorem dX7_add_38 : decode cX7_add 38 = .ok (.iload 4, 2) := by decide +kernel
theorem dX7_add_40 : decode cX7_add 40 = .ok (.iastore, 1) := by decide +kernel
theorem dX7_add_41 : decode cX7_add 41 = .ok (.aload_n 0, 1) := by decide +kernel
theorem dX7_add_42 : decode cX7_add 42 = .ok (.getfield 24, 3) := by decide +kernel
theorem dX7_add_45 : decode cX7_add 45 = .ok (.aload_n 0, 1) := by decide +kernel
theorem dX7_add_46 : decode cX7_add 46 = .ok (.getfield 30, 3) := by decide +kernel
theorem dX7_add_49 : decode cX7_add 49 = .ok (.iload 5, 2) := by decide +kernel
theorem dX7_add_51 : decode cX7_add 51 = .ok (.iastore, 1) := by decide +kernel
theorem dX7_add_52 : decode cX7_add 52 = .ok (.aload_n 0, 1) := by decide +kernel
theorem dX7_add_53 : decode cX7_add 53 = .ok (.getfield 27, 3) := by decide +kernel
theorem dX7_add_56 : decode cX7_add 56 = .ok (.aload_n 0, 1) := by decide +kernel
theorem dX7_add_57 : decode cX7_add 57 = .ok (.getfield 30, 3) := by decide +kernel
theorem dX7_add_60 : decode cX7_add 60 = .ok (.iload 6, 2) := by decide +kernel
theorem dX7_add_62 : decode cX7_add 62 = .ok (.iastore, 1) := by decide +kernel
theorem dX7_add_63 : decode cX7_add 63 = .ok (.aload_n 0, 1) := by decide +kernel
theorem dX7_add_64 : decode cX7_add 64 = .ok (.dup, 1) := by decide +kernel
theorem dX7_add_65 : decode cX7_add 65 = .ok (.getfield 30, 3) := by decide +kernel
theorem dX7_add_68 : decode cX7_add 68 = .ok (.iconst 1, 1) := by decide +kernel
theorem dX7_add_69 : decode cX7_add 69 = .ok (.iadd, 1) := by decide +kernel
theorem dX7_add_70 : decode cX7_add 70 = .ok (.putfield 30, 3) := by decide +kernel
theorem dX7_add_73 : decode cX7_add 73 = .ok (.aload_n 0, 1) := by decide +kernel
theorem dX7_add_74 : decode cX7_add 74 = .ok (.getfield 30, 3) := by decide +kernel
theorem dX7_add_77 : decode cX7_add 77 = .ok (.iconst 1, 1) := by decide +kernel
theorem dX7_add_78 : decode cX7_add 78 = .ok (.isub, 1) := by decide +kernel
theorem dX7_add_79 : decode cX7_add 79 = .ok (.ireturn, 1) := by decide +kernel
theorem dX7_quotaOf_0 : decode cX7_quotaOf 0 = .ok (.aload_n 0, 1) := by decide +kernel
theorem dX7_quotaOf_1 : decode cX7_quotaOf 1 = .ok (.getfield 34, 3) := by decide +kernel
theorem dX7_quotaOf_4 : decode cX7_quotaOf 4 = .ok (.iload_n 1, 1) := by decide +kernel
theorem dX7_quotaOf_5 : decode cX7_quotaOf 5 = .ok (.imul, 1) := by decide +kernel
theorem dX7_quotaOf_6 : decode cX7_quotaOf 6 = .ok (.bipush 100, 2) := by decide +kernel
theorem dX7_quotaOf_8 : decode cX7_quotaOf 8 = .ok (.idiv, 1) := by decide +kernel
theorem dX7_quotaOf_9 : decode cX7_quotaOf 9 = .ok (.ireturn, 1) := by decide +kernel
theorem dX7_fullHit_0 : decode cX7_fullHit 0 = .ok (.iload_n 2, 1) := by decide +kernel
theorem dX7_fullHit_1 : decode cX7_fullHit 1 = .ok (.aload_n 0, 1) := by decide +kernel
theorem dX7_fullHit_2 : decode cX7_fullHit 2 = .ok (.getfield 9, 3) := by decide +kernel
theorem dX7_fullHit_5 : decode cX7_fullHit 5 = .ok (.iload_n 1, 1) := by decide +kernel
theorem dX7_fullHit_6 : decode cX7_fullHit 6 = .ok (.iaload, 1) := by decide +kernel
theorem dX7_fullHit_7 : decode cX7_fullHit 7 = .ok (.isub, 1) := by decide +kernel
theorem dX7_fullHit_8 : decode cX7_fullHit 8 = .ok (.istore_n 3, 1) := by decide +kernel
theorem dX7_fullHit_9 : decode cX7_fullHit 9 = .ok (.iload_n 3, 1) := by decide +kernel
theorem dX7_fullHit_10 : decode cX7_fullHit 10 = .ok (.ifCond .gt 5, 3) := by decide +kernel
theorem dX7_fullHit_13 : decode cX7_fullHit 13 = .ok (.iconst 0, 1) := by decide +kernel
theorem dX7_fullHit_14 : decode cX7_fullHit 14 = .ok (.ireturn, 1) := by decide +kernel
theorem dX7_fullHit_15 : decode cX7_fullHit 15 = .ok (.iload_n 3, 1) := by decide +kernel
theorem dX7_fullHit_16 : decode cX7_fullHit 16 = .ok (.aload_n 0, 1) := by decide +kernel
theorem dX7_fullHit_17 : decode cX7_fullHit 17 = .ok (.getfield 15, 3) := by decide +kernel
theorem dX7_fullHit_20 : decode cX7_fullHit 20 = .ok (.iload_n 1, 1) := by decide +kernel
theorem dX7_fullHit_21 : decode cX7_fullHit 21 = .ok (.iaload, 1) := by decide +kernel
theorem dX7_fullHit_22 : decode cX7_fullHit 22 = .ok (.if_icmp .ge 7, 3) := by decide +kernel
theorem dX7_fullHit_25 : decode cX7_fullHit 25 = .ok (.iload_n 3, 1) := by decide +kernel
theorem dX7_fullHit_26 : decode cX7_fullHit 26 = .ok (.goto 9, 3) := by decide +kernel
theorem dX7_fullHit_29 : decode cX7_fullHit 29 = .ok (.aload_n 0, 1) := by decide +kernel
theorem dX7_fullHit_30 : decode cX7_fullHit 30 = .ok (.getfield 15, 3) := by decide +kernel
theorem dX7_fullHit_33 : decode cX7_fullHit 33 = .ok (.iload_n 1, 1) := by decide +kernel
theorem dX7_fullHit_34 : decode cX7_fullHit 34 = .ok (.iaload, 1) := by decide +kernel
theorem dX7_fullHit_35 : decode cX7_fullHit 35 = .ok (.ireturn, 1) := by decide +kernel
theorem dX7_payFor_0 : decode cX7_payFor 0 = .ok (.aload_n 0, 1) := by decide +kernel
theorem dX7_payFor_1 : decode cX7_payFor 1 = .ok (.getfield 18, 3) := by decide +kernel
theorem dX7_payFor_4 : decode cX7_payFor 4 = .ok (.iload_n 1, 1) := by decide +kernel
theorem dX7_payFor_5 : decode cX7_payFor 5 = .ok (.iaload, 1) := by decide +kernel
theorem dX7_payFor_6 : decode cX7_payFor 6 = .ok (.iload_n 2, 1) := by decide +kernel
theorem dX7_payFor_7 : decode cX7_payFor 7 = .ok (.imul, 1) := by decide +kernel
theorem dX7_payFor_8 : decode cX7_payFor 8 = .ok (.bipush 100, 2) := by decide +kernel
theorem dX7_payFor_10 : decode cX7_payFor 10 = .ok (.idiv, 1) := by decide +kernel
theorem dX7_payFor_11 : decode cX7_payFor 11 = .ok (.ireturn, 1) := by decide +kernel
theorem dX7_restorable_0 : decode cX7_restorable 0 = .ok (.aload_n 0, 1) := by decide +kernel
theorem dX7_restorable_1 : decode cX7_restorable 1 = .ok (.getfield 15, 3) := by decide +kernel
theorem dX7_restorable_4 : decode cX7_restorable 4 = .ok (.iload_n 1, 1) := by decide +kernel
theorem dX7_restorable_5 : decode cX7_restorable 5 = .ok (.iaload, 1) := by decide +kernel
theorem dX7_restorable_6 : decode cX7_restorable 6 = .ok (.aload_n 0, 1) := by decide +kernel
theorem dX7_restorable_7 : decode cX7_restorable 7 = .ok (.getfield 21, 3) := by decide +kernel
theorem dX7_restorable_10 : decode cX7_restorable 10 = .ok (.iload_n 1, 1) := by decide +kernel
theorem dX7_restorable_11 : decode cX7_restorable 11 = .ok (.iaload, 1) := by decide +kernel
theorem dX7_restorable_12 : decode cX7_restorable 12 = .ok (.imul, 1) := by decide +kernel
theorem dX7_restorable_13 : decode cX7_restorable 13 = .ok (.ireturn, 1) := by decide +kernel
theorem dX7_capacity_0 : decode cX7_capacity 0 = .ok (.aload_n 0, 1) := by decide +kernel
theorem dX7_capacity_1 : decode cX7_capacity 1 = .ok (.getfield 15, 3) := by decide +kernel
theorem dX7_capacity_4 : decode cX7_capacity 4 = .ok (.iload_n 1, 1) := by decide +kernel
theorem dX7_capacity_5 : decode cX7_capacity 5 = .ok (.iaload, 1) := by decide +kernel
theorem dX7_capacity_6 : decode cX7_capacity 6 = .ok (.aload_n 0, 1) := by decide +kernel
theorem dX7_capacity_7 : decode cX7_capacity 7 = .ok (.iload_n 1, 1) := by decide +kernel
theorem dX7_capacity_8 : decode cX7_capacity 8 = .ok (.invokevirtual 37, 3) := by decide +kernel
theorem dX7_capacity_11 : decode cX7_capacity 11 = .ok (.iadd, 1) := by decide +kernel
theorem dX7_capacity_12 : decode cX7_capacity 12 = .ok (.ireturn, 1) := by decide +kernel
theorem dX7_chargeFor_0 : decode cX7_chargeFor 0 = .ok (.ldc2_w 41, 3) := by decide +kernel
theorem dX7_chargeFor_3 : decode cX7_chargeFor 3 = .ok (.aload_n 0, 1) := by decide +kernel
theorem dX7_chargeFor_4 : decode cX7_chargeFor 4 = .ok (.getfield 15, 3) := by decide +kernel
theorem dX7_chargeFor_7 : decode cX7_chargeFor 7 = .ok (.iload_n 1, 1) := by decide +kernel
theorem dX7_chargeFor_8 : decode cX7_chargeFor 8 = .ok (.iaload, 1) := by decide +kernel
theorem dX7_chargeFor_9 : decode cX7_chargeFor 9 = .ok (.i2l, 1) := by decide +kernel
theorem dX7_chargeFor_10 : decode cX7_chargeFor 10 = .ok (.lmul, 1) := by decide +kernel
theorem dX7_chargeFor_11 : decode cX7_chargeFor 11 = .ok (.lstore_n 3, 1) := by decide +kernel
theorem dX7_chargeFor_12 : decode cX7_chargeFor 12 = .ok (.lload_n 3, 1) := by decide +kernel
theorem dX7_chargeFor_13 : decode cX7_chargeFor 13 = .ok (.lconst 1, 1) := by decide +kernel
theorem dX7_chargeFor_14 : decode cX7_chargeFor 14 = .ok (.lcmp, 1) := by decide +kernel
theorem dX7_chargeFor_15 : decode cX7_chargeFor 15 = .ok (.ifCond .ge 5, 3) := by decide +kernel
theorem dX7_chargeFor_18 : decode cX7_chargeFor 18 = .ok (.iconst 0, 1) := by decide +kernel
theorem dX7_chargeFor_19 : decode cX7_chargeFor 19 = .ok (.ireturn, 1) := by decide +kernel
theorem dX7_chargeFor_20 : decode cX7_chargeFor 20 = .ok (.aload_n 0, 1) := by decide +kernel
theorem dX7_chargeFor_21 : decode cX7_chargeFor 21 = .ok (.getfield 24, 3) := by decide +kernel
theorem dX7_chargeFor_24 : decode cX7_chargeFor 24 = .ok (.iload_n 1, 1) := by decide +kernel
theorem dX7_chargeFor_25 : decode cX7_chargeFor 25 = .ok (.iaload, 1) := by decide +kernel
theorem dX7_chargeFor_26 : decode cX7_chargeFor 26 = .ok (.i2l, 1) := by decide +kernel
theorem dX7_chargeFor_27 : decode cX7_chargeFor 27 = .ok (.iload_n 2, 1) := by decide +kernel
theorem dX7_chargeFor_28 : decode cX7_chargeFor 28 = .ok (.i2l, 1) := by decide +kernel
theorem dX7_chargeFor_29 : decode cX7_chargeFor 29 = .ok (.lmul, 1) := by decide +kernel
theorem dX7_chargeFor_30 : decode cX7_chargeFor 30 = .ok (.aload_n 0, 1) := by decide +kernel
theorem dX7_chargeFor_31 : decode cX7_chargeFor 31 = .ok (.getfield 27, 3) := by decide +kernel
theorem dX7_chargeFor_34 : decode cX7_chargeFor 34 = .ok (.iload_n 1, 1) := by decide +kernel
theorem dX7_chargeFor_35 : decode cX7_chargeFor 35 = .ok (.iaload, 1) := by decide +kernel
theorem dX7_chargeFor_36 : decode cX7_chargeFor 36 = .ok (.i2l, 1) := by decide +kernel
theorem dX7_chargeFor_37 : decode cX7_chargeFor 37 = .ok (.lmul, 1) := by decide +kernel
theorem dX7_chargeFor_38 : decode cX7_chargeFor 38 = .ok (.lload_n 3, 1) := by decide +kernel
theorem dX7_chargeFor_39 : decode cX7_chargeFor 39 = .ok (.ldiv, 1) := by decide +kernel
theorem dX7_chargeFor_40 : decode cX7_chargeFor 40 = .ok (.l2i, 1) := by decide +kernel
theorem dX7_chargeFor_41 : decode cX7_chargeFor 41 = .ok (.ireturn, 1) := by decide +kernel
theorem dX7_freshPay_0 : decode cX7_freshPay 0 = .ok (.aload_n 0, 1) := by decide +kernel
theorem dX7_freshPay_1 : decode cX7_freshPay 1 = .ok (.iload_n 1, 1) := by decide +kernel
theorem dX7_freshPay_2 : decode cX7_freshPay 2 = .ok (.aload_n 0, 1) := by decide +kernel
theorem dX7_freshPay_3 : decode cX7_freshPay 3 = .ok (.iload_n 1, 1) := by decide +kernel
theorem dX7_freshPay_4 : decode cX7_freshPay 4 = .ok (.iload_n 2, 1) := by decide +kernel
theorem dX7_freshPay_5 : decode cX7_freshPay 5 = .ok (.aload_n 0, 1) := by decide +kernel
theorem dX7_freshPay_6 : decode cX7_freshPay 6 = .ok (.iload_n 2, 1) := by decide +kernel
theorem dX7_freshPay_7 : decode cX7_freshPay 7 = .ok (.invokevirtual 43, 3) := by decide +kernel
theorem dX7_freshPay_10 : decode cX7_freshPay 10 = .ok (.isub, 1) := by decide +kernel
theorem dX7_freshPay_11 : decode cX7_freshPay 11 = .ok (.invokevirtual 46, 3) := by decide +kernel
theorem dX7_freshPay_14 : decode cX7_freshPay 14 = .ok (.invokevirtual 50, 3) := by decide +kernel
theorem dX7_freshPay_17 : decode cX7_freshPay 17 = .ok (.ireturn, 1) := by decide +kernel
theorem dX7_freshPayOfAll_0 : decode cX7_freshPayOfAll 0 = .ok (.iconst 0, 1) := by decide +kernel
theorem dX7_freshPayOfAll_1 : decode cX7_freshPayOfAll 1 = .ok (.istore_n 2, 1) := by decide +kernel
theorem dX7_freshPayOfAll_2 : decode cX7_freshPayOfAll 2 = .ok (.iconst 0, 1) := by decide +kernel
theorem dX7_freshPayOfAll_3 : decode cX7_freshPayOfAll 3 = .ok (.istore_n 3, 1) := by decide +kernel
theorem dX7_freshPayOfAll_4 : decode cX7_freshPayOfAll 4 = .ok (.iload_n 3, 1) := by decide +kernel
theorem dX7_freshPayOfAll_5 : decode cX7_freshPayOfAll 5 = .ok (.aload_n 0, 1) := by decide +kernel
theorem dX7_freshPayOfAll_6 : decode cX7_freshPayOfAll 6 = .ok (.getfield 30, 3) := by decide +kernel
theorem dX7_freshPayOfAll_9 : decode cX7_freshPayOfAll 9 = .ok (.if_icmp .ge 18, 3) := by decide +kernel
theorem dX7_freshPayOfAll_12 : decode cX7_freshPayOfAll 12 = .ok (.iload_n 2, 1) := by decide +kernel
theorem dX7_freshPayOfAll_13 : decode cX7_freshPayOfAll 13 = .ok (.aload_n 0, 1) := by decide +kernel
theorem dX7_freshPayOfAll_14 : decode cX7_freshPayOfAll 14 = .ok (.iload_n 3, 1) := by decide +kernel
theorem dX7_freshPayOfAll_15 : decode cX7_freshPayOfAll 15 = .ok (.iload_n 1, 1) := by decide +kernel
theorem dX7_freshPayOfAll_16 : decode cX7_freshPayOfAll 16 = .ok (.invokevirtual 53, 3) := by decide +kernel
theorem dX7_freshPayOfAll_19 : decode cX7_freshPayOfAll 19 = .ok (.iadd, 1) := by decide +kernel
theorem dX7_freshPayOfAll_20 : decode cX7_freshPayOfAll 20 = .ok (.istore_n 2, 1) := by decide +kernel
theorem dX7_freshPayOfAll_21 : decode cX7_freshPayOfAll 21 = .ok (.iinc 3 1, 3) := by decide +kernel
theorem dX7_freshPayOfAll_24 : decode cX7_freshPayOfAll 24 = .ok (.goto (-20), 3) := by decide +kernel
theorem dX7_freshPayOfAll_27 : decode cX7_freshPayOfAll 27 = .ok (.iload_n 2, 1) := by decide +kernel
theorem dX7_freshPayOfAll_28 : decode cX7_freshPayOfAll 28 = .ok (.ireturn, 1) := by decide +kernel
theorem dX8_init_0 : decode cX8_init 0 = .ok (.aload_n 0, 1) := by decide +kernel
theorem dX8_init_1 : decode cX8_init 1 = .ok (.invokespecial 3, 3) := by decide +kernel
theorem dX8_init_4 : decode cX8_init 4 = .ok (.aload_n 0, 1) := by decide +kernel
theorem dX8_init_5 : decode cX8_init 5 = .ok (.bipush 8, 2) := by decide +kernel
theorem dX8_init_7 : decode cX8_init 7 = .ok (.newarray .int, 2) := by decide +kernel
theorem dX8_init_9 : decode cX8_init 9 = .ok (.putfield 9, 3) := by decide +kernel
theorem dX8_init_12 : decode cX8_init 12 = .ok (.aload_n 0, 1) := by decide +kernel
theorem dX8_init_13 : decode cX8_init 13 = .ok (.bipush 8, 2) := by decide +kernel
theorem dX8_init_15 : decode cX8_init 15 = .ok (.newarray .int, 2) := by decide +kernel
theorem dX8_init_17 : decode cX8_init 17 = .ok (.putfield 15, 3) := by decide +kernel
theorem dX8_init_20 : decode cX8_init 20 = .ok (.aload_n 0, 1) := by decide +kernel
theorem dX8_init_21 : decode cX8_init 21 = .ok (.bipush 8, 2) := by decide +kernel
theorem dX8_init_23 : decode cX8_init 23 = .ok (.newarray .int, 2) := by decide +kernel
theorem dX8_init_25 : decode cX8_init 25 = .ok (.putfield 18, 3) := by decide +kernel
theorem dX8_init_28 : decode cX8_init 28 = .ok (.return_, 1) := by decide +kernel
theorem dX8_has_0 : decode cX8_has 0 = .ok (.iload_n 1, 1) := by decide +kernel
theorem dX8_has_1 : decode cX8_has 1 = .ok (.ifCond .lt 15, 3) := by decide +kernel
theorem dX8_has_4 : decode cX8_has 4 = .ok (.iload_n 1, 1) := by decide +kernel
theorem dX8_has_5 : decode cX8_has 5 = .ok (.aload_n 0, 1) := by decide +kernel
theorem dX8_has_6 : decode cX8_has 6 = .ok (.getfield 21, 3) := by decide +kernel
theorem dX8_has_9 : decode cX8_has 9 = .ok (.if_icmp .ge 7, 3) := by decide +kernel
theorem dX8_has_12 : decode cX8_has 12 = .ok (.iconst 1, 1) := by decide +kernel
theorem dX8_has_13 : decode cX8_has 13 = .ok (.goto 4, 3) := by decide +kernel
theorem dX8_has_16 : decode cX8_has 16 = .ok (.iconst 0, 1) := by decide +kernel
theorem dX8_has_17 : decode cX8_has 17 = .ok (.ireturn, 1) := by decide +kernel
theorem dX8_isFull_0 : decode cX8_isFull 0 = .ok (.aload_n 0, 1) := by decide +kernel
theorem dX8_isFull_1 : decode cX8_isFull 1 = .ok (.getfield 21, 3) := by decide +kernel
theorem dX8_isFull_4 : decode cX8_isFull 4 = .ok (.bipush 8, 2) := by decide +kernel
theorem dX8_isFull_6 : decode cX8_isFull 6 = .ok (.if_icmp .lt 7, 3) := by decide +kernel
theorem dX8_isFull_9 : decode cX8_isFull 9 = .ok (.iconst 1, 1) := by decide +kernel
theorem dX8_isFull_10 : decode cX8_isFull 10 = .ok (.goto 4, 3) := by decide +kernel
theorem dX8_isFull_13 : decode cX8_isFull 13 = .ok (.iconst 0, 1) := by decide +kernel
theorem dX8_isFull_14 : decode cX8_isFull 14 = .ok (.ireturn, 1) := by decide +kernel
theorem dX8_isEmpty_0 : decode cX8_isEmpty 0 = .ok (.aload_n 0, 1) := by decide +kernel
theorem dX8_isEmpty_1 : decode cX8_isEmpty 1 = .ok (.getfield 21, 3) := by decide +kernel
theorem dX8_isEmpty_4 : decode cX8_isEmpty 4 = .ok (.ifCond .gt 7, 3) := by decide +kernel
theorem dX8_isEmpty_7 : decode cX8_isEmpty 7 = .ok (.iconst 1, 1) := by decide +kernel
theorem dX8_isEmpty_8 : decode cX8_isEmpty 8 = .ok (.goto 4, 3) := by decide +kernel
theorem dX8_isEmpty_11 : decode cX8_isEmpty 11 = .ok (.iconst 0, 1) := by decide +kernel
theorem dX8_isEmpty_12 : decode cX8_isEmpty 12 = .ok (.ireturn, 1) := by decide +kernel
theorem dX8_hasInCommon_0 : decode cX8_hasInCommon 0 = .ok (.iconst 0, 1) := by decide +kernel
theorem dX8_hasInCommon_1 : decode cX8_hasInCommon 1 = .ok (.istore 4, 2) := by decide +kernel
theorem dX8_hasInCommon_3 : decode cX8_hasInCommon 3 = .ok (.iload 4, 2) := by decide +kernel
theorem dX8_hasInCommon_5 : decode cX8_hasInCommon 5 = .ok (.aload_n 0, 1) := by decide +kernel
theorem dX8_hasInCommon_6 : decode cX8_hasInCommon 6 = .ok (.getfield 21, 3) := by decide +kernel
theorem dX8_hasInCommon_9 : decode cX8_hasInCommon 9 = .ok (.if_icmp .ge 44, 3) := by decide +kernel
theorem dX8_hasInCommon_12 : decode cX8_hasInCommon 12 = .ok (.aload_n 0, 1) := by decide +kernel
theorem dX8_hasInCommon_13 : decode cX8_hasInCommon 13 = .ok (.getfield 9, 3) := by decide +kernel
theorem dX8_hasInCommon_16 : decode cX8_hasInCommon 16 = .ok (.iload 4, 2) := by decide +kernel
theorem dX8_hasInCommon_18 : decode cX8_hasInCommon 18 = .ok (.iaload, 1) := by decide +kernel
theorem dX8_hasInCommon_19 : decode cX8_hasInCommon 19 = .ok (.iload_n 1, 1) := by decide +kernel
theorem dX8_hasInCommon_20 : decode cX8_hasInCommon 20 = .ok (.if_icmp .ne 27, 3) := by decide +kernel
theorem dX8_hasInCommon_23 : decode cX8_hasInCommon 23 = .ok (.aload_n 0, 1) := by decide +kernel
theorem dX8_hasInCommon_24 : decode cX8_hasInCommon 24 = .ok (.getfield 15, 3) := by decide +kernel
theorem dX8_hasInCommon_27 : decode cX8_hasInCommon 27 = .ok (.iload 4, 2) := by decide +kernel
theorem dX8_hasInCommon_29 : decode cX8_hasInCommon 29 = .ok (.iaload, 1) := by decide +kernel
theorem dX8_hasInCommon_30 : decode cX8_hasInCommon 30 = .ok (.iload_n 3, 1) := by decide +kernel
theorem dX8_hasInCommon_31 : decode cX8_hasInCommon 31 = .ok (.if_icmp .gt 16, 3) := by decide +kernel
theorem dX8_hasInCommon_34 : decode cX8_hasInCommon 34 = .ok (.aload_n 0, 1) := by decide +kernel
theorem dX8_hasInCommon_35 : decode cX8_hasInCommon 35 = .ok (.getfield 18, 3) := by decide +kernel
theorem dX8_hasInCommon_38 : decode cX8_hasInCommon 38 = .ok (.iload 4, 2) := by decide +kernel
theorem dX8_hasInCommon_40 : decode cX8_hasInCommon 40 = .ok (.iaload, 1) := by decide +kernel
theorem dX8_hasInCommon_41 : decode cX8_hasInCommon 41 = .ok (.iload_n 2, 1) := by decide +kernel
theorem dX8_hasInCommon_42 : decode cX8_hasInCommon 42 = .ok (.if_icmp .lt 5, 3) := by decide +kernel
theorem dX8_hasInCommon_45 : decode cX8_hasInCommon 45 = .ok (.iconst 1, 1) := by decide +kernel
theorem dX8_hasInCommon_46 : decode cX8_hasInCommon 46 = .ok (.ireturn, 1) := by decide +kernel
theorem dX8_hasInCommon_47 : decode cX8_hasInCommon 47 = .ok (.iinc 4 1, 3) := by decide +kernel
theorem dX8_hasInCommon_50 : decode cX8_hasInCommon 50 = .ok (.goto (-47), 3) := by decide +kernel
theorem dX8_hasInCommon_53 : decode cX8_hasInCommon 53 = .ok (.iconst 0, 1) := by decide +kernel
theorem dX8_hasInCommon_54 : decode cX8_hasInCommon 54 = .ok (.ireturn, 1) := by decide +kernel
theorem dX8_add_0 : decode cX8_add 0 = .ok (.aload_n 0, 1) := by decide +kernel
theorem dX8_add_1 : decode cX8_add 1 = .ok (.getfield 9, 3) := by decide +kernel
theorem dX8_add_4 : decode cX8_add 4 = .ok (.aload_n 0, 1) := by decide +kernel
theorem dX8_add_5 : decode cX8_add 5 = .ok (.getfield 21, 3) := by decide +kernel
theorem dX8_add_8 : decode cX8_add 8 = .ok (.iload_n 1, 1) := by decide +kernel
theorem dX8_add_9 : decode cX8_add 9 = .ok (.iastore, 1) := by decide +kernel
theorem dX8_add_10 : decode cX8_add 10 = .ok (.aload_n 0, 1) := by decide +kernel
theorem dX8_add_11 : decode cX8_add 11 = .ok (.getfield 15, 3) := by decide +kernel
theorem dX8_add_14 : decode cX8_add 14 = .ok (.aload_n 0, 1) := by decide +kernel
theorem dX8_add_15 : decode cX8_add 15 = .ok (.getfield 21, 3) := by decide +kernel
theorem dX8_add_18 : decode cX8_add 18 = .ok (.iload_n 2, 1) := by decide +kernel
theorem dX8_add_19 : decode cX8_add 19 = .ok (.iastore, 1) := by decide +kernel
theorem dX8_add_20 : decode cX8_add 20 = .ok (.aload_n 0, 1) := by decide +kernel
theorem dX8_add_21 : decode cX8_add 21 = .ok (.getfield 18, 3) := by decide +kernel
theorem dX8_add_24 : decode cX8_add 24 = .ok (.aload_n 0, 1) := by decide +kernel
theorem dX8_add_25 : decode cX8_add 25 = .ok (.getfield 21, 3) := by decide +kernel
theorem dX8_add_28 : decode cX8_add 28 = .ok (.iload_n 3, 1) := by decide +kernel
theorem dX8_add_29 : decode cX8_add 29 = .ok (.iastore, 1) := by decide +kernel
theorem dX8_add_30 : decode cX8_add 30 = .ok (.aload_n 0, 1) := by decide +kernel
theorem dX8_add_31 : decode cX8_add 31 = .ok (.dup, 1) := by decide +kernel
theorem dX8_add_32 : decode cX8_add 32 = .ok (.getfield 21, 3) := by decide +kernel
theorem dX8_add_35 : decode cX8_add 35 = .ok (.iconst 1, 1) := by decide +kernel
theorem dX8_add_36 : decode cX8_add 36 = .ok (.iadd, 1) := by decide +kernel
theorem dX8_add_37 : decode cX8_add 37 = .ok (.putfield 21, 3) := by decide +kernel
theorem dX8_add_40 : decode cX8_add 40 = .ok (.aload_n 0, 1) := by decide +kernel
theorem dX8_add_41 : decode cX8_add 41 = .ok (.getfield 21, 3) := by decide +kernel
theorem dX8_add_44 : decode cX8_add 44 = .ok (.iconst 1, 1) := by decide +kernel
theorem dX8_add_45 : decode cX8_add 45 = .ok (.isub, 1) := by decide +kernel
theorem dX8_add_46 : decode cX8_add 46 = .ok (.ireturn, 1) := by decide +kernel
theorem dX8_removeLast_0 : decode cX8_removeLast 0 = .ok (.aload_n 0, 1) := by decide +kernel
theorem dX8_removeLast_1 : decode cX8_removeLast 1 = .ok (.dup, 1) := by decide +kernel
theorem dX8_removeLast_2 : decode cX8_removeLast 2 = .ok (.getfield 21, 3) := by decide +kernel
theorem dX8_removeLast_5 : decode cX8_removeLast 5 = .ok (.iconst 1, 1) := by decide +kernel
theorem dX8_removeLast_6 : decode cX8_removeLast 6 = .ok (.isub, 1) := by decide +kernel
theorem dX8_removeLast_7 : decode cX8_removeLast 7 = .ok (.putfield 21, 3) := by decide +kernel
theorem dX8_removeLast_10 : decode cX8_removeLast 10 = .ok (.aload_n 0, 1) := by decide +kernel
theorem dX8_removeLast_11 : decode cX8_removeLast 11 = .ok (.getfield 21, 3) := by decide +kernel
theorem dX8_removeLast_14 : decode cX8_removeLast 14 = .ok (.ireturn, 1) := by decide +kernel
theorem dX8_groundOf_0 : decode cX8_groundOf 0 = .ok (.aload_n 2, 1) := by decide +kernel
theorem dX8_groundOf_1 : decode cX8_groundOf 1 = .ok (.aload_n 0, 1) := by decide +kernel
theorem dX8_groundOf_2 : decode cX8_groundOf 2 = .ok (.getfield 9, 3) := by decide +kernel
theorem dX8_groundOf_5 : decode cX8_groundOf 5 = .ok (.iload_n 1, 1) := by decide +kernel
theorem dX8_groundOf_6 : decode cX8_groundOf 6 = .ok (.iaload, 1) := by decide +kernel
theorem dX8_groundOf_7 : decode cX8_groundOf 7 = .ok (.aload_n 0, 1) := by decide +kernel
theorem dX8_groundOf_8 : decode cX8_groundOf 8 = .ok (.getfield 15, 3) := by decide +kernel
theorem dX8_groundOf_11 : decode cX8_groundOf 11 = .ok (.iload_n 1, 1) := by decide +kernel
theorem dX8_groundOf_12 : decode cX8_groundOf 12 = .ok (.iaload, 1) := by decide +kernel
theorem dX8_groundOf_13 : decode cX8_groundOf 13 = .ok (.aload_n 0, 1) := by decide +kernel
theorem dX8_groundOf_14 : decode cX8_groundOf 14 = .ok (.getfield 18, 3) := by decide +kernel
theorem dX8_groundOf_17 : decode cX8_groundOf 17 = .ok (.iload_n 1, 1) := by decide +kernel
theorem dX8_groundOf_18 : decode cX8_groundOf 18 = .ok (.iaload, 1) := by decide +kernel
theorem dX8_groundOf_19 : decode cX8_groundOf 19 = .ok (.invokevirtual 25, 3) := by decide +kernel
theorem dX8_groundOf_22 : decode cX8_groundOf 22 = .ok (.ireturn, 1) := by decide +kernel
theorem dX8_placeOf_0 : decode cX8_placeOf 0 = .ok (.iconst 0, 1) := by decide +kernel
theorem dX8_placeOf_1 : decode cX8_placeOf 1 = .ok (.istore_n 2, 1) := by decide +kernel
theorem dX8_placeOf_2 : decode cX8_placeOf 2 = .ok (.iconst 0, 1) := by decide +kernel
theorem dX8_placeOf_3 : decode cX8_placeOf 3 = .ok (.istore_n 3, 1) := by decide +kernel
theorem dX8_placeOf_4 : decode cX8_placeOf 4 = .ok (.iload_n 3, 1) := by decide +kernel
theorem dX8_placeOf_5 : decode cX8_placeOf 5 = .ok (.aload_n 0, 1) := by decide +kernel
theorem dX8_placeOf_6 : decode cX8_placeOf 6 = .ok (.getfield 21, 3) := by decide +kernel
theorem dX8_placeOf_9 : decode cX8_placeOf 9 = .ok (.if_icmp .ge 69, 3) := by decide +kernel
theorem dX8_placeOf_12 : decode cX8_placeOf 12 = .ok (.aload_n 0, 1) := by decide +kernel
theorem dX8_placeOf_13 : decode cX8_placeOf 13 = .ok (.getfield 15, 3) := by decide +kernel
theorem dX8_placeOf_16 : decode cX8_placeOf 16 = .ok (.iload_n 3, 1) := by decide +kernel
theorem dX8_placeOf_17 : decode cX8_placeOf 17 = .ok (.iaload, 1) := by decide +kernel
theorem dX8_placeOf_18 : decode cX8_placeOf 18 = .ok (.aload_n 0, 1) := by decide +kernel
theorem dX8_placeOf_19 : decode cX8_placeOf 19 = .ok (.getfield 15, 3) := by decide +kernel
theorem dX8_placeOf_22 : decode cX8_placeOf 22 = .ok (.iload_n 1, 1) := by decide +kernel
theorem dX8_placeOf_23 : decode cX8_placeOf 23 = .ok (.iaload, 1) := by decide +kernel
theorem dX8_placeOf_24 : decode cX8_placeOf 24 = .ok (.if_icmp .ne 22, 3) := by decide +kernel
theorem dX8_placeOf_27 : decode cX8_placeOf 27 = .ok (.aload_n 0, 1) := by decide +kernel
theorem dX8_placeOf_28 : decode cX8_placeOf 28 = .ok (.getfield 9, 3) := by decide +kernel
theorem dX8_placeOf_31 : decode cX8_placeOf 31 = .ok (.iload_n 3, 1) := by decide +kernel
theorem dX8_placeOf_32 : decode cX8_placeOf 32 = .ok (.iaload, 1) := by decide +kernel
theorem dX8_placeOf_33 : decode cX8_placeOf 33 = .ok (.aload_n 0, 1) := by decide +kernel
theorem dX8_placeOf_34 : decode cX8_placeOf 34 = .ok (.getfield 9, 3) := by decide +kernel
theorem dX8_placeOf_37 : decode cX8_placeOf 37 = .ok (.iload_n 1, 1) := by decide +kernel
theorem dX8_placeOf_38 : decode cX8_placeOf 38 = .ok (.iaload, 1) := by decide +kernel
theorem dX8_placeOf_39 : decode cX8_placeOf 39 = .ok (.if_icmp .ge 7, 3) := by decide +kernel
theorem dX8_placeOf_42 : decode cX8_placeOf 42 = .ok (.iconst 1, 1) := by decide +kernel
theorem dX8_placeOf_43 : decode cX8_placeOf 43 = .ok (.goto 4, 3) := by decide +kernel
theorem dX8_placeOf_46 : decode cX8_placeOf 46 = .ok (.iconst 0, 1) := by decide +kernel
theorem dX8_placeOf_47 : decode cX8_placeOf 47 = .ok (.istore 4, 2) := by decide +kernel
theorem dX8_placeOf_49 : decode cX8_placeOf 49 = .ok (.aload_n 0, 1) := by decide +kernel
theorem dX8_placeOf_50 : decode cX8_placeOf 50 = .ok (.getfield 15, 3) := by decide +kernel
theorem dX8_placeOf_53 : decode cX8_placeOf 53 = .ok (.iload_n 3, 1) := by decide +kernel
theorem dX8_placeOf_54 : decode cX8_placeOf 54 = .ok (.iaload, 1) := by decide +kernel
theorem dX8_placeOf_55 : decode cX8_placeOf 55 = .ok (.aload_n 0, 1) := by decide +kernel
theorem dX8_placeOf_56 : decode cX8_placeOf 56 = .ok (.getfield 15, 3) := by decide +kernel
theorem dX8_placeOf_59 : decode cX8_placeOf 59 = .ok (.iload_n 1, 1) := by decide +kernel
theorem dX8_placeOf_60 : decode cX8_placeOf 60 = .ok (.iaload, 1) := by decide +kernel
theorem dX8_placeOf_61 : decode cX8_placeOf 61 = .ok (.if_icmp .lt 8, 3) := by decide +kernel
theorem dX8_placeOf_64 : decode cX8_placeOf 64 = .ok (.iload 4, 2) := by decide +kernel
theorem dX8_placeOf_66 : decode cX8_placeOf 66 = .ok (.ifCond .eq 6, 3) := by decide +kernel
theorem dX8_placeOf_69 : decode cX8_placeOf 69 = .ok (.iinc 2 1, 3) := by decide +kernel
theorem dX8_placeOf_72 : decode cX8_placeOf 72 = .ok (.iinc 3 1, 3) := by decide +kernel
theorem dX8_placeOf_75 : decode cX8_placeOf 75 = .ok (.goto (-71), 3) := by decide +kernel
theorem dX8_placeOf_78 : decode cX8_placeOf 78 = .ok (.iload_n 2, 1) := by decide +kernel
theorem dX8_placeOf_79 : decode cX8_placeOf 79 = .ok (.ireturn, 1) := by decide +kernel
theorem dX9_init_0 : decode cX9_init 0 = .ok (.aload_n 0, 1) := by decide +kernel
theorem dX9_init_1 : decode cX9_init 1 = .ok (.invokespecial 3, 3) := by decide +kernel
theorem dX9_init_4 : decode cX9_init 4 = .ok (.aload_n 0, 1) := by decide +kernel
theorem dX9_init_5 : decode cX9_init 5 = .ok (.new 9, 3) := by decide +kernel
theorem dX9_init_8 : decode cX9_init 8 = .ok (.dup, 1) := by decide +kernel
theorem dX9_init_9 : decode cX9_init 9 = .ok (.invokespecial 11, 3) := by decide +kernel
theorem dX9_init_12 : decode cX9_init 12 = .ok (.putfield 12, 3) := by decide +kernel
theorem dX9_init_15 : decode cX9_init 15 = .ok (.aload_n 0, 1) := by decide +kernel
theorem dX9_init_16 : decode cX9_init 16 = .ok (.new 16, 3) := by decide +kernel
theorem dX9_init_19 : decode cX9_init 19 = .ok (.dup, 1) := by decide +kernel
theorem dX9_init_20 : decode cX9_init 20 = .ok (.invokespecial 18, 3) := by decide +kernel
theorem dX9_init_23 : decode cX9_init 23 = .ok (.putfield 19, 3) := by decide +kernel
theorem dX9_init_26 : decode cX9_init 26 = .ok (.aload_n 0, 1) := by decide +kernel
theorem dX9_init_27 : decode cX9_init 27 = .ok (.new 23, 3) := by decide +kernel
theorem dX9_init_30 : decode cX9_init 30 = .ok (.dup, 1) := by decide +kernel
theorem dX9_init_31 : decode cX9_init 31 = .ok (.invokespecial 25, 3) := by decide +kernel
theorem dX9_init_34 : decode cX9_init 34 = .ok (.putfield 26, 3) := by decide +kernel
theorem dX9_init_37 : decode cX9_init 37 = .ok (.aload_n 0, 1) := by decide +kernel
theorem dX9_init_38 : decode cX9_init 38 = .ok (.new 30, 3) := by decide +kernel
theorem dX9_init_41 : decode cX9_init 41 = .ok (.dup, 1) := by decide +kernel
theorem dX9_init_42 : decode cX9_init 42 = .ok (.invokespecial 32, 3) := by decide +kernel
theorem dX9_init_45 : decode cX9_init 45 = .ok (.putfield 33, 3) := by decide +kernel
theorem dX9_init_48 : decode cX9_init 48 = .ok (.aload_n 0, 1) := by decide +kernel
theorem dX9_init_49 : decode cX9_init 49 = .ok (.new 37, 3) := by decide +kernel
theorem dX9_init_52 : decode cX9_init 52 = .ok (.dup, 1) := by decide +kernel
theorem dX9_init_53 : decode cX9_init 53 = .ok (.invokespecial 39, 3) := by decide +kernel
theorem dX9_init_56 : decode cX9_init 56 = .ok (.putfield 40, 3) := by decide +kernel
theorem dX9_init_59 : decode cX9_init 59 = .ok (.aload_n 0, 1) := by decide +kernel
theorem dX9_init_60 : decode cX9_init 60 = .ok (.new 44, 3) := by decide +kernel
theorem dX9_init_63 : decode cX9_init 63 = .ok (.dup, 1) := by decide +kernel
theorem dX9_init_64 : decode cX9_init 64 = .ok (.invokespecial 46, 3) := by decide +kernel
theorem dX9_init_67 : decode cX9_init 67 = .ok (.putfield 47, 3) := by decide +kernel
theorem dX9_init_70 : decode cX9_init 70 = .ok (.aload_n 0, 1) := by decide +kernel
theorem dX9_init_71 : decode cX9_init 71 = .ok (.new 51, 3) := by decide +kernel
theorem dX9_init_74 : decode cX9_init 74 = .ok (.dup, 1) := by decide +kernel
theorem dX9_init_75 : decode cX9_init 75 = .ok (.invokespecial 53, 3) := by decide +kernel
theorem dX9_init_78 : decode cX9_init 78 = .ok (.putfield 54, 3) := by decide +kernel
theorem dX9_init_81 : decode cX9_init 81 = .ok (.aload_n 0, 1) := by decide +kernel
theorem dX9_init_82 : decode cX9_init 82 = .ok (.new 58, 3) := by decide +kernel
theorem dX9_init_85 : decode cX9_init 85 = .ok (.dup, 1) := by decide +kernel
theorem dX9_init_86 : decode cX9_init 86 = .ok (.invokespecial 60, 3) := by decide +kernel
theorem dX9_init_89 : decode cX9_init 89 = .ok (.putfield 61, 3) := by decide +kernel
theorem dX9_init_92 : decode cX9_init 92 = .ok (.aload_n 0, 1) := by decide +kernel
theorem dX9_init_93 : decode cX9_init 93 = .ok (.new 65, 3) := by decide +kernel
theorem dX9_init_96 : decode cX9_init 96 = .ok (.dup, 1) := by decide +kernel
theorem dX9_init_97 : decode cX9_init 97 = .ok (.invokespecial 67, 3) := by decide +kernel
theorem dX9_init_100 : decode cX9_init 100 = .ok (.putfield 68, 3) := by decide +kernel
theorem dX9_init_103 : decode cX9_init 103 = .ok (.return_, 1) := by decide +kernel
theorem dX9_loss_0 : decode cX9_loss 0 = .ok (.iload_n 1, 1) := by decide +kernel
theorem dX9_loss_1 : decode cX9_loss 1 = .ok (.invokestatic 72, 3) := by decide +kernel
theorem dX9_loss_4 : decode cX9_loss 4 = .ok (.ifCond .eq 20, 3) := by decide +kernel
theorem dX9_loss_7 : decode cX9_loss 7 = .ok (.iload_n 2, 1) := by decide +kernel
theorem dX9_loss_8 : decode cX9_loss 8 = .ok (.invokestatic 76, 3) := by decide +kernel
theorem dX9_loss_11 : decode cX9_loss 11 = .ok (.ifCond .eq 13, 3) := by decide +kernel
theorem dX9_loss_14 : decode cX9_loss 14 = .ok (.iload_n 3, 1) := by decide +kernel
theorem dX9_loss_15 : decode cX9_loss 15 = .ok (.iconst 0, 1) := by decide +kernel
theorem dX9_loss_16 : decode cX9_loss 16 = .ok (.ldc 79, 2) := by decide +kernel
theorem dX9_loss_18 : decode cX9_loss 18 = .ok (.invokestatic 80, 3) := by decide +kernel
theorem dX9_loss_21 : decode cX9_loss 21 = .ok (.ifCond .ne 13, 3) := by decide +kernel
theorem dX9_loss_24 : decode cX9_loss 24 = .ok (.new 84, 3) := by decide +kernel
theorem dX9_loss_27 : decode cX9_loss 27 = .ok (.dup, 1) := by decide +kernel
theorem dX9_loss_28 : decode cX9_loss 28 = .ok (.ldc 86, 2) := by decide +kernel
theorem dX9_loss_30 : decode cX9_loss 30 = .ok (.invokespecial 88, 3) := by decide +kernel
theorem dX9_loss_33 : decode cX9_loss 33 = .ok (.athrow, 1) := by decide +kernel
theorem dX9_loss_34 : decode cX9_loss 34 = .ok (.aload_n 0, 1) := by decide +kernel
theorem dX9_loss_35 : decode cX9_loss 35 = .ok (.getfield 12, 3) := by decide +kernel
theorem dX9_loss_38 : decode cX9_loss 38 = .ok (.invokevirtual 91, 3) := by decide +kernel
theorem dX9_loss_41 : decode cX9_loss 41 = .ok (.ifCond .eq 13, 3) := by decide +kernel
theorem dX9_loss_44 : decode cX9_loss 44 = .ok (.new 95, 3) := by decide +kernel
theorem dX9_loss_47 : decode cX9_loss 47 = .ok (.dup, 1) := by decide +kernel
theorem dX9_loss_48 : decode cX9_loss 48 = .ok (.ldc 97, 2) := by decide +kernel
theorem dX9_loss_50 : decode cX9_loss 50 = .ok (.invokespecial 99, 3) := by decide +kernel
theorem dX9_loss_53 : decode cX9_loss 53 = .ok (.athrow, 1) := by decide +kernel
theorem dX9_loss_54 : decode cX9_loss 54 = .ok (.aload_n 0, 1) := by decide +kernel
theorem dX9_loss_55 : decode cX9_loss 55 = .ok (.getfield 12, 3) := by decide +kernel
theorem dX9_loss_58 : decode cX9_loss 58 = .ok (.iload_n 1, 1) := by decide +kernel
theorem dX9_loss_59 : decode cX9_loss 59 = .ok (.iload_n 2, 1) := by decide +kernel
theorem dX9_loss_60 : decode cX9_loss 60 = .ok (.iload_n 3, 1) := by decide +kernel
theorem dX9_loss_61 : decode cX9_loss 61 = .ok (.invokevirtual 100, 3) := by decide +kernel
theorem dX9_loss_64 : decode cX9_loss 64 = .ok (.ireturn, 1) := by decide +kernel
theorem dX9_creep_0 : decode cX9_creep 0 = .ok (.aload_n 0, 1) := by decide +kernel
theorem dX9_creep_1 : decode cX9_creep 1 = .ok (.getfield 12, 3) := by decide +kernel
theorem dX9_creep_4 : decode cX9_creep 4 = .ok (.iload_n 1, 1) := by decide +kernel
theorem dX9_creep_5 : decode cX9_creep 5 = .ok (.invokevirtual 104, 3) := by decide +kernel
theorem dX9_creep_8 : decode cX9_creep 8 = .ok (.ifCond .ne 13, 3) := by decide +kernel
theorem dX9_creep_11 : decode cX9_creep 11 = .ok (.new 107, 3) := by decide +kernel
theorem dX9_creep_14 : decode cX9_creep 14 = .ok (.dup, 1) := by decide +kernel
theorem dX9_creep_15 : decode cX9_creep 15 = .ok (.ldc 109, 2) := by decide +kernel
theorem dX9_creep_17 : decode cX9_creep 17 = .ok (.invokespecial 111, 3) := by decide +kernel
theorem dX9_creep_20 : decode cX9_creep 20 = .ok (.athrow, 1) := by decide +kernel
theorem dX9_creep_21 : decode cX9_creep 21 = .ok (.iload_n 2, 1) := by decide +kernel
theorem dX9_creep_22 : decode cX9_creep 22 = .ok (.iconst 0, 1) := by decide +kernel
theorem dX9_creep_23 : decode cX9_creep 23 = .ok (.ldc 79, 2) := by decide +kernel
theorem dX9_creep_25 : decode cX9_creep 25 = .ok (.invokestatic 80, 3) := by decide +kernel
theorem dX9_creep_28 : decode cX9_creep 28 = .ok (.ifCond .ne 13, 3) := by decide +kernel
theorem dX9_creep_31 : decode cX9_creep 31 = .ok (.new 84, 3) := by decide +kernel
theorem dX9_creep_34 : decode cX9_creep 34 = .ok (.dup, 1) := by decide +kernel
theorem dX9_creep_35 : decode cX9_creep 35 = .ok (.ldc 112, 2) := by decide +kernel
theorem dX9_creep_37 : decode cX9_creep 37 = .ok (.invokespecial 88, 3) := by decide +kernel
theorem dX9_creep_40 : decode cX9_creep 40 = .ok (.athrow, 1) := by decide +kernel
theorem dX9_creep_41 : decode cX9_creep 41 = .ok (.aload_n 0, 1) := by decide +kernel
theorem dX9_creep_42 : decode cX9_creep 42 = .ok (.getfield 12, 3) := by decide +kernel
theorem dX9_creep_45 : decode cX9_creep 45 = .ok (.iload_n 1, 1) := by decide +kernel
theorem dX9_creep_46 : decode cX9_creep 46 = .ok (.iload_n 2, 1) := by decide +kernel
theorem dX9_creep_47 : decode cX9_creep 47 = .ok (.invokevirtual 114, 3) := by decide +kernel
theorem dX9_creep_50 : decode cX9_creep 50 = .ok (.ireturn, 1) := by decide +kernel
theorem dX9_choose_0 : decode cX9_choose 0 = .ok (.iload_n 1, 1) := by decide +kernel
theorem dX9_choose_1 : decode cX9_choose 1 = .ok (.invokestatic 72, 3) := by decide +kernel
theorem dX9_choose_4 : decode cX9_choose 4 = .ok (.ifCond .eq 21, 3) := by decide +kernel
theorem dX9_choose_7 : decode cX9_choose 7 = .ok (.iload_n 2, 1) := by decide +kernel
theorem dX9_choose_8 : decode cX9_choose 8 = .ok (.iload_n 3, 1) := by decide +kernel
theorem dX9_choose_9 : decode cX9_choose 9 = .ok (.invokestatic 118, 3) := by decide +kernel
theorem dX9_choose_12 : decode cX9_choose 12 = .ok (.ifCond .eq 13, 3) := by decide +kernel
theorem dX9_choose_15 : decode cX9_choose 15 = .ok (.iload_n 3, 1) := by decide +kernel
theorem dX9_choose_16 : decode cX9_choose 16 = .ok (.iload_n 2, 1) := by decide +kernel
theorem dX9_choose_17 : decode cX9_choose 17 = .ok (.isub, 1) := by decide +kernel
theorem dX9_choose_18 : decode cX9_choose 18 = .ok (.iload_n 1, 1) := by decide +kernel
theorem dX9_choose_19 : decode cX9_choose 19 = .ok (.invokestatic 122, 3) := by decide +kernel
theorem dX9_choose_22 : decode cX9_choose 22 = .ok (.if_icmp .lt 13, 3) := by decide +kernel
theorem dX9_choose_25 : decode cX9_choose 25 = .ok (.new 84, 3) := by decide +kernel
theorem dX9_choose_28 : decode cX9_choose 28 = .ok (.dup, 1) := by decide +kernel
theorem dX9_choose_29 : decode cX9_choose 29 = .ok (.ldc 126, 2) := by decide +kernel
theorem dX9_choose_31 : decode cX9_choose 31 = .ok (.invokespecial 88, 3) := by decide +kernel
theorem dX9_choose_34 : decode cX9_choose 34 = .ok (.athrow, 1) := by decide +kernel
theorem dX9_choose_35 : decode cX9_choose 35 = .ok (.aload_n 0, 1) := by decide +kernel
theorem dX9_choose_36 : decode cX9_choose 36 = .ok (.getfield 19, 3) := by decide +kernel
theorem dX9_choose_39 : decode cX9_choose 39 = .ok (.invokevirtual 128, 3) := by decide +kernel
theorem dX9_choose_42 : decode cX9_choose 42 = .ok (.ifCond .ne 16, 3) := by decide +kernel
theorem dX9_choose_45 : decode cX9_choose 45 = .ok (.aload_n 0, 1) := by decide +kernel
theorem dX9_choose_46 : decode cX9_choose 46 = .ok (.getfield 19, 3) := by decide +kernel
theorem dX9_choose_49 : decode cX9_choose 49 = .ok (.iload_n 1, 1) := by decide +kernel
theorem dX9_choose_50 : decode cX9_choose 50 = .ok (.iload_n 2, 1) := by decide +kernel
theorem dX9_choose_51 : decode cX9_choose 51 = .ok (.iload_n 3, 1) := by decide +kernel
theorem dX9_choose_52 : decode cX9_choose 52 = .ok (.invokevirtual 129, 3) := by decide +kernel
theorem dX9_choose_55 : decode cX9_choose 55 = .ok (.ifCond .eq 13, 3) := by decide +kernel
theorem dX9_choose_58 : decode cX9_choose 58 = .ok (.new 95, 3) := by decide +kernel
theorem dX9_choose_61 : decode cX9_choose 61 = .ok (.dup, 1) := by decide +kernel
theorem dX9_choose_62 : decode cX9_choose 62 = .ok (.ldc 132, 2) := by decide +kernel
theorem dX9_choose_64 : decode cX9_choose 64 = .ok (.invokespecial 99, 3) := by decide +kernel
theorem dX9_choose_67 : decode cX9_choose 67 = .ok (.athrow, 1) := by decide +kernel
theorem dX9_choose_68 : decode cX9_choose 68 = .ok (.aload_n 0, 1) := by decide +kernel
theorem dX9_choose_69 : decode cX9_choose 69 = .ok (.getfield 19, 3) := by decide +kernel
theorem dX9_choose_72 : decode cX9_choose 72 = .ok (.iload_n 1, 1) := by decide +kernel
theorem dX9_choose_73 : decode cX9_choose 73 = .ok (.iload_n 2, 1) := by decide +kernel
theorem dX9_choose_74 : decode cX9_choose 74 = .ok (.iload_n 3, 1) := by decide +kernel
theorem dX9_choose_75 : decode cX9_choose 75 = .ok (.invokevirtual 134, 3) := by decide +kernel
theorem dX9_choose_78 : decode cX9_choose 78 = .ok (.ireturn, 1) := by decide +kernel
theorem dX9_unchoose_0 : decode cX9_unchoose 0 = .ok (.aload_n 0, 1) := by decide +kernel
theorem dX9_unchoose_1 : decode cX9_unchoose 1 = .ok (.getfield 19, 3) := by decide +kernel
theorem dX9_unchoose_4 : decode cX9_unchoose 4 = .ok (.invokevirtual 135, 3) := by decide +kernel
theorem dX9_unchoose_7 : decode cX9_unchoose 7 = .ok (.ifCond .eq 13, 3) := by decide +kernel
theorem dX9_unchoose_10 : decode cX9_unchoose 10 = .ok (.new 95, 3) := by decide +kernel
theorem dX9_unchoose_13 : decode cX9_unchoose 13 = .ok (.dup, 1) := by decide +kernel
theorem dX9_unchoose_14 : decode cX9_unchoose 14 = .ok (.ldc 138, 2) := by decide +kernel
theorem dX9_unchoose_16 : decode cX9_unchoose 16 = .ok (.invokespecial 99, 3) := by decide +kernel
theorem dX9_unchoose_19 : decode cX9_unchoose 19 = .ok (.athrow, 1) := by decide +kernel
theorem dX9_unchoose_20 : decode cX9_unchoose 20 = .ok (.aload_n 0, 1) := by decide +kernel
theorem dX9_unchoose_21 : decode cX9_unchoose 21 = .ok (.getfield 19, 3) := by decide +kernel
theorem dX9_unchoose_24 : decode cX9_unchoose 24 = .ok (.invokevirtual 140, 3) := by decide +kernel
theorem dX9_unchoose_27 : decode cX9_unchoose 27 = .ok (.ireturn, 1) := by decide +kernel
theorem dX9_quota_0 : decode cX9_quota 0 = .ok (.iload_n 1, 1) := by decide +kernel
theorem dX9_quota_1 : decode cX9_quota 1 = .ok (.iconst 0, 1) := by decide +kernel
theorem dX9_quota_2 : decode cX9_quota 2 = .ok (.bipush 90, 2) := by decide +kernel
theorem dX9_quota_4 : decode cX9_quota 4 = .ok (.invokestatic 80, 3) := by decide +kernel
theorem dX9_quota_7 : decode cX9_quota 7 = .ok (.ifCond .ne 13, 3) := by decide +kernel
theorem dX9_quota_10 : decode cX9_quota 10 = .ok (.new 84, 3) := by decide +kernel
theorem dX9_quota_13 : decode cX9_quota 13 = .ok (.dup, 1) := by decide +kernel
theorem dX9_quota_14 : decode cX9_quota 14 = .ok (.ldc 144, 2) := by decide +kernel
theorem dX9_quota_16 : decode cX9_quota 16 = .ok (.invokespecial 88, 3) := by decide +kernel
theorem dX9_quota_19 : decode cX9_quota 19 = .ok (.athrow, 1) := by decide +kernel
theorem dX9_quota_20 : decode cX9_quota 20 = .ok (.aload_n 0, 1) := by decide +kernel
theorem dX9_quota_21 : decode cX9_quota 21 = .ok (.getfield 26, 3) := by decide +kernel
theorem dX9_quota_24 : decode cX9_quota 24 = .ok (.iload_n 1, 1) := by decide +kernel
theorem dX9_quota_25 : decode cX9_quota 25 = .ok (.invokevirtual 146, 3) := by decide +kernel
theorem dX9_quota_28 : decode cX9_quota 28 = .ok (.ireturn, 1) := by decide +kernel
theorem dX9_layer_0 : decode cX9_layer 0 = .ok (.iload_n 1, 1) := by decide +kernel
theorem dX9_layer_1 : decode cX9_layer 1 = .ok (.iconst 0, 1) := by decide +kernel
theorem dX9_layer_2 : decode cX9_layer 2 = .ok (.ldc 149, 2) := by decide +kernel
theorem dX9_layer_4 : decode cX9_layer 4 = .ok (.invokestatic 80, 3) := by decide +kernel
theorem dX9_layer_7 : decode cX9_layer 7 = .ok (.ifCond .eq 27, 3) := by decide +kernel
theorem dX9_layer_10 : decode cX9_layer 10 = .ok (.iload_n 2, 1) := by decide +kernel
theorem dX9_layer_11 : decode cX9_layer 11 = .ok (.iconst 1, 1) := by decide +kernel
theorem dX9_layer_12 : decode cX9_layer 12 = .ok (.ldc 149, 2) := by decide +kernel
theorem dX9_layer_14 : decode cX9_layer 14 = .ok (.invokestatic 80, 3) := by decide +kernel
theorem dX9_layer_17 : decode cX9_layer 17 = .ok (.ifCond .eq 17, 3) := by decide +kernel
theorem dX9_layer_20 : decode cX9_layer 20 = .ok (.iload_n 3, 1) := by decide +kernel
theorem dX9_layer_21 : decode cX9_layer 21 = .ok (.iconst 1, 1) := by decide +kernel
theorem dX9_layer_22 : decode cX9_layer 22 = .ok (.bipush 100, 2) := by decide +kernel
theorem dX9_layer_24 : decode cX9_layer 24 = .ok (.invokestatic 80, 3) := by decide +kernel
theorem dX9_layer_27 : decode cX9_layer 27 = .ok (.ifCond .eq 7, 3) := by decide +kernel
theorem dX9_layer_30 : decode cX9_layer 30 = .ok (.iconst 1, 1) := by decide +kernel
theorem dX9_layer_31 : decode cX9_layer 31 = .ok (.goto 4, 3) := by decide +kernel
theorem dX9_layer_34 : decode cX9_layer 34 = .ok (.iconst 0, 1) := by decide +kernel
theorem dX9_layer_35 : decode cX9_layer 35 = .ok (.istore 7, 2) := by decide +kernel
theorem dX9_layer_37 : decode cX9_layer 37 = .ok (.iload 7, 2) := by decide +kernel
theorem dX9_layer_39 : decode cX9_layer 39 = .ok (.ifCond .eq 36, 3) := by decide +kernel
theorem dX9_layer_42 : decode cX9_layer 42 = .ok (.iload 4, 2) := by decide +kernel
theorem dX9_layer_44 : decode cX9_layer 44 = .ok (.iconst 0, 1) := by decide +kernel
theorem dX9_layer_45 : decode cX9_layer 45 = .ok (.iconst 3, 1) := by decide +kernel
theorem dX9_layer_46 : decode cX9_layer 46 = .ok (.invokestatic 80, 3) := by decide +kernel
theorem dX9_layer_49 : decode cX9_layer 49 = .ok (.ifCond .eq 26, 3) := by decide +kernel
theorem dX9_layer_52 : decode cX9_layer 52 = .ok (.iload 5, 2) := by decide +kernel
theorem dX9_layer_54 : decode cX9_layer 54 = .ok (.iconst 0, 1) := by decide +kernel
theorem dX9_layer_55 : decode cX9_layer 55 = .ok (.ldc 79, 2) := by decide +kernel
theorem dX9_layer_57 : decode cX9_layer 57 = .ok (.invokestatic 80, 3) := by decide +kernel
theorem dX9_layer_60 : decode cX9_layer 60 = .ok (.ifCond .eq 15, 3) := by decide +kernel
theorem dX9_layer_63 : decode cX9_layer 63 = .ok (.iload 6, 2) := by decide +kernel
theorem dX9_layer_65 : decode cX9_layer 65 = .ok (.iconst 0, 1) := by decide +kernel
theorem dX9_layer_66 : decode cX9_layer 66 = .ok (.sipush 150, 3) := by decide +kernel
theorem dX9_layer_69 : decode cX9_layer 69 = .ok (.invokestatic 80, 3) := by decide +kernel
theorem dX9_layer_72 : decode cX9_layer 72 = .ok (.ifCond .ne 13, 3) := by decide +kernel
theorem dX9_layer_75 : decode cX9_layer 75 = .ok (.new 84, 3) := by decide +kernel
theorem dX9_layer_78 : decode cX9_layer 78 = .ok (.dup, 1) := by decide +kernel
theorem dX9_layer_79 : decode cX9_layer 79 = .ok (.ldc 150, 2) := by decide +kernel
theorem dX9_layer_81 : decode cX9_layer 81 = .ok (.invokespecial 88, 3) := by decide +kernel
theorem dX9_layer_84 : decode cX9_layer 84 = .ok (.athrow, 1) := by decide +kernel
theorem dX9_layer_85 : decode cX9_layer 85 = .ok (.aload_n 0, 1) := by decide +kernel
theorem dX9_layer_86 : decode cX9_layer 86 = .ok (.getfield 26, 3) := by decide +kernel
theorem dX9_layer_89 : decode cX9_layer 89 = .ok (.invokevirtual 152, 3) := by decide +kernel
theorem dX9_layer_92 : decode cX9_layer 92 = .ok (.ifCond .eq 13, 3) := by decide +kernel
theorem dX9_layer_95 : decode cX9_layer 95 = .ok (.new 95, 3) := by decide +kernel
theorem dX9_layer_98 : decode cX9_layer 98 = .ok (.dup, 1) := by decide +kernel
theorem dX9_layer_99 : decode cX9_layer 99 = .ok (.ldc 153, 2) := by decide +kernel
theorem dX9_layer_101 : decode cX9_layer 101 = .ok (.invokespecial 99, 3) := by decide +kernel
theorem dX9_layer_104 : decode cX9_layer 104 = .ok (.athrow, 1) := by decide +kernel
theorem dX9_layer_105 : decode cX9_layer 105 = .ok (.aload_n 0, 1) := by decide +kernel
theorem dX9_layer_106 : decode cX9_layer 106 = .ok (.getfield 26, 3) := by decide +kernel
theorem dX9_layer_109 : decode cX9_layer 109 = .ok (.iload_n 1, 1) := by decide +kernel
theorem dX9_layer_110 : decode cX9_layer 110 = .ok (.iload_n 2, 1) := by decide +kernel
theorem dX9_layer_111 : decode cX9_layer 111 = .ok (.iload_n 3, 1) := by decide +kernel
theorem dX9_layer_112 : decode cX9_layer 112 = .ok (.iload 4, 2) := by decide +kernel
theorem dX9_layer_114 : decode cX9_layer 114 = .ok (.iload 5, 2) := by decide +kernel
theorem dX9_layer_116 : decode cX9_layer 116 = .ok (.iload 6, 2) := by decide +kernel
theorem dX9_layer_118 : decode cX9_layer 118 = .ok (.invokevirtual 155, 3) := by decide +kernel
theorem dX9_layer_121 : decode cX9_layer 121 = .ok (.ireturn, 1) := by decide +kernel
theorem dX9_part_0 : decode cX9_part 0 = .ok (.aload_n 0, 1) := by decide +kernel
theorem dX9_part_1 : decode cX9_part 1 = .ok (.getfield 26, 3) := by decide +kernel
theorem dX9_part_4 : decode cX9_part 4 = .ok (.iload_n 1, 1) := by decide +kernel
theorem dX9_part_5 : decode cX9_part 5 = .ok (.invokevirtual 158, 3) := by decide +kernel
theorem dX9_part_8 : decode cX9_part 8 = .ok (.ifCond .eq 10, 3) := by decide +kernel
theorem dX9_part_11 : decode cX9_part 11 = .ok (.iload_n 2, 1) := by decide +kernel
theorem dX9_part_12 : decode cX9_part 12 = .ok (.invokestatic 159, 3) := by decide +kernel
theorem dX9_part_15 : decode cX9_part 15 = .ok (.ifCond .ne 13, 3) := by decide +kernel
theorem dX9_part_18 : decode cX9_part 18 = .ok (.new 107, 3) := by decide +kernel
theorem dX9_part_21 : decode cX9_part 21 = .ok (.dup, 1) := by decide +kernel
theorem dX9_part_22 : decode cX9_part 22 = .ok (.ldc 162, 2) := by decide +kernel
theorem dX9_part_24 : decode cX9_part 24 = .ok (.invokespecial 111, 3) := by decide +kernel
theorem dX9_part_27 : decode cX9_part 27 = .ok (.athrow, 1) := by decide +kernel
theorem dX9_part_28 : decode cX9_part 28 = .ok (.iload_n 3, 1) := by decide +kernel
theorem dX9_part_29 : decode cX9_part 29 = .ok (.iconst 0, 1) := by decide +kernel
theorem dX9_part_30 : decode cX9_part 30 = .ok (.bipush 100, 2) := by decide +kernel
theorem dX9_part_32 : decode cX9_part 32 = .ok (.invokestatic 80, 3) := by decide +kernel
theorem dX9_part_35 : decode cX9_part 35 = .ok (.ifCond .ne 13, 3) := by decide +kernel
theorem dX9_part_38 : decode cX9_part 38 = .ok (.new 84, 3) := by decide +kernel
theorem dX9_part_41 : decode cX9_part 41 = .ok (.dup, 1) := by decide +kernel
theorem dX9_part_42 : decode cX9_part 42 = .ok (.ldc 144, 2) := by decide +kernel
theorem dX9_part_44 : decode cX9_part 44 = .ok (.invokespecial 88, 3) := by decide +kernel
theorem dX9_part_47 : decode cX9_part 47 = .ok (.athrow, 1) := by decide +kernel
theorem dX9_part_48 : decode cX9_part 48 = .ok (.aload_n 0, 1) := by decide +kernel
theorem dX9_part_49 : decode cX9_part 49 = .ok (.getfield 40, 3) := by decide +kernel
theorem dX9_part_52 : decode cX9_part 52 = .ok (.iload_n 1, 1) := by decide +kernel
theorem dX9_part_53 : decode cX9_part 53 = .ok (.iload_n 2, 1) := by decide +kernel
theorem dX9_part_54 : decode cX9_part 54 = .ok (.invokevirtual 164, 3) := by decide +kernel
theorem dX9_part_57 : decode cX9_part 57 = .ok (.iload_n 3, 1) := by decide +kernel
theorem dX9_part_58 : decode cX9_part 58 = .ok (.iadd, 1) := by decide +kernel
theorem dX9_part_59 : decode cX9_part 59 = .ok (.bipush 100, 2) := by decide +kernel
theorem dX9_part_61 : decode cX9_part 61 = .ok (.if_icmp .le 13, 3) := by decide +kernel
theorem dX9_part_64 : decode cX9_part 64 = .ok (.new 95, 3) := by decide +kernel
theorem dX9_part_67 : decode cX9_part 67 = .ok (.dup, 1) := by decide +kernel
theorem dX9_part_68 : decode cX9_part 68 = .ok (.ldc 167, 2) := by decide +kernel
theorem dX9_part_70 : decode cX9_part 70 = .ok (.invokespecial 99, 3) := by decide +kernel
theorem dX9_part_73 : decode cX9_part 73 = .ok (.athrow, 1) := by decide +kernel
theorem dX9_part_74 : decode cX9_part 74 = .ok (.aload_n 0, 1) := by decide +kernel
theorem dX9_part_75 : decode cX9_part 75 = .ok (.getfield 40, 3) := by decide +kernel
theorem dX9_part_78 : decode cX9_part 78 = .ok (.iload_n 1, 1) := by decide +kernel
theorem dX9_part_79 : decode cX9_part 79 = .ok (.iload_n 2, 1) := by decide +kernel
theorem dX9_part_80 : decode cX9_part 80 = .ok (.iload_n 3, 1) := by decide +kernel
theorem dX9_part_81 : decode cX9_part 81 = .ok (.invokevirtual 169, 3) := by decide +kernel
theorem dX9_part_84 : decode cX9_part 84 = .ok (.ireturn, 1) := by decide +kernel
theorem dX9_retro_0 : decode cX9_retro 0 = .ok (.iload_n 1, 1) := by decide +kernel
theorem dX9_retro_1 : decode cX9_retro 1 = .ok (.invokestatic 159, 3) := by decide +kernel
theorem dX9_retro_4 : decode cX9_retro 4 = .ok (.ifCond .eq 10, 3) := by decide +kernel
theorem dX9_retro_7 : decode cX9_retro 7 = .ok (.iload_n 2, 1) := by decide +kernel
theorem dX9_retro_8 : decode cX9_retro 8 = .ok (.invokestatic 159, 3) := by decide +kernel
theorem dX9_retro_11 : decode cX9_retro 11 = .ok (.ifCond .ne 13, 3) := by decide +kernel
theorem dX9_retro_14 : decode cX9_retro 14 = .ok (.new 107, 3) := by decide +kernel
theorem dX9_retro_17 : decode cX9_retro 17 = .ok (.dup, 1) := by decide +kernel
theorem dX9_retro_18 : decode cX9_retro 18 = .ok (.ldc 172, 2) := by decide +kernel
theorem dX9_retro_20 : decode cX9_retro 20 = .ok (.invokespecial 111, 3) := by decide +kernel
theorem dX9_retro_23 : decode cX9_retro 23 = .ok (.athrow, 1) := by decide +kernel
theorem dX9_retro_24 : decode cX9_retro 24 = .ok (.iload_n 1, 1) := by decide +kernel
theorem dX9_retro_25 : decode cX9_retro 25 = .ok (.iload_n 2, 1) := by decide +kernel
theorem dX9_retro_26 : decode cX9_retro 26 = .ok (.if_icmp .eq 24, 3) := by decide +kernel
theorem dX9_retro_29 : decode cX9_retro 29 = .ok (.iload_n 3, 1) := by decide +kernel
theorem dX9_retro_30 : decode cX9_retro 30 = .ok (.iconst 0, 1) := by decide +kernel
theorem dX9_retro_31 : decode cX9_retro 31 = .ok (.ldc 149, 2) := by decide +kernel
theorem dX9_retro_33 : decode cX9_retro 33 = .ok (.invokestatic 80, 3) := by decide +kernel
theorem dX9_retro_36 : decode cX9_retro 36 = .ok (.ifCond .eq 14, 3) := by decide +kernel
theorem dX9_retro_39 : decode cX9_retro 39 = .ok (.iload 4, 2) := by decide +kernel
theorem dX9_retro_41 : decode cX9_retro 41 = .ok (.iconst 0, 1) := by decide +kernel
theorem dX9_retro_42 : decode cX9_retro 42 = .ok (.ldc 149, 2) := by decide +kernel
theorem dX9_retro_44 : decode cX9_retro 44 = .ok (.invokestatic 80, 3) := by decide +kernel
theorem dX9_retro_47 : decode cX9_retro 47 = .ok (.ifCond .ne 13, 3) := by decide +kernel
theorem dX9_retro_50 : decode cX9_retro 50 = .ok (.new 84, 3) := by decide +kernel
theorem dX9_retro_53 : decode cX9_retro 53 = .ok (.dup, 1) := by decide +kernel
theorem dX9_retro_54 : decode cX9_retro 54 = .ok (.ldc 174, 2) := by decide +kernel
theorem dX9_retro_56 : decode cX9_retro 56 = .ok (.invokespecial 88, 3) := by decide +kernel
theorem dX9_retro_59 : decode cX9_retro 59 = .ok (.athrow, 1) := by decide +kernel
theorem dX9_retro_60 : decode cX9_retro 60 = .ok (.aload_n 0, 1) := by decide +kernel
theorem dX9_retro_61 : decode cX9_retro 61 = .ok (.getfield 40, 3) := by decide +kernel
theorem dX9_retro_64 : decode cX9_retro 64 = .ok (.iload_n 1, 1) := by decide +kernel
theorem dX9_retro_65 : decode cX9_retro 65 = .ok (.iload_n 2, 1) := by decide +kernel
theorem dX9_retro_66 : decode cX9_retro 66 = .ok (.iload_n 3, 1) := by decide +kernel
theorem dX9_retro_67 : decode cX9_retro 67 = .ok (.iload 4, 2) := by decide +kernel
theorem dX9_retro_69 : decode cX9_retro 69 = .ok (.invokevirtual 176, 3) := by decide +kernel
theorem dX9_retro_72 : decode cX9_retro 72 = .ok (.ireturn, 1) := by decide +kernel
theorem dX9_station_0 : decode cX9_station 0 = .ok (.iload_n 1, 1) := by decide +kernel
theorem dX9_station_1 : decode cX9_station 1 = .ok (.iconst 0, 1) := by decide +kernel
theorem dX9_station_2 : decode cX9_station 2 = .ok (.bipush 15, 2) := by decide +kernel
theorem dX9_station_4 : decode cX9_station 4 = .ok (.invokestatic 80, 3) := by decide +kernel
theorem dX9_station_7 : decode cX9_station 7 = .ok (.ifCond .ne 13, 3) := by decide +kernel
theorem dX9_station_10 : decode cX9_station 10 = .ok (.new 84, 3) := by decide +kernel
theorem dX9_station_13 : decode cX9_station 13 = .ok (.dup, 1) := by decide +kernel
theorem dX9_station_14 : decode cX9_station 14 = .ok (.ldc 180, 2) := by decide +kernel
theorem dX9_station_16 : decode cX9_station 16 = .ok (.invokespecial 88, 3) := by decide +kernel
theorem dX9_station_19 : decode cX9_station 19 = .ok (.athrow, 1) := by decide +kernel
theorem dX9_station_20 : decode cX9_station 20 = .ok (.aload_n 0, 1) := by decide +kernel
theorem dX9_station_21 : decode cX9_station 21 = .ok (.getfield 54, 3) := by decide +kernel
theorem dX9_station_24 : decode cX9_station 24 = .ok (.invokevirtual 182, 3) := by decide +kernel
theorem dX9_station_27 : decode cX9_station 27 = .ok (.ifCond .eq 13, 3) := by decide +kernel
theorem dX9_station_30 : decode cX9_station 30 = .ok (.new 95, 3) := by decide +kernel
theorem dX9_station_33 : decode cX9_station 33 = .ok (.dup, 1) := by decide +kernel
theorem dX9_station_34 : decode cX9_station 34 = .ok (.ldc 183, 2) := by decide +kernel
theorem dX9_station_36 : decode cX9_station 36 = .ok (.invokespecial 99, 3) := by decide +kernel
theorem dX9_station_39 : decode cX9_station 39 = .ok (.athrow, 1) := by decide +kernel
theorem dX9_station_40 : decode cX9_station 40 = .ok (.aload_n 0, 1) := by decide +kernel
theorem dX9_station_41 : decode cX9_station 41 = .ok (.getfield 54, 3) := by decide +kernel
theorem dX9_station_44 : decode cX9_station 44 = .ok (.iload_n 1, 1) := by decide +kernel
theorem dX9_station_45 : decode cX9_station 45 = .ok (.invokevirtual 185, 3) := by decide +kernel
theorem dX9_station_48 : decode cX9_station 48 = .ok (.ireturn, 1) := by decide +kernel
theorem dX9_reading_0 : decode cX9_reading 0 = .ok (.aload_n 0, 1) := by decide +kernel
theorem dX9_reading_1 : decode cX9_reading 1 = .ok (.getfield 54, 3) := by decide +kernel
theorem dX9_reading_4 : decode cX9_reading 4 = .ok (.iload_n 1, 1) := by decide +kernel
theorem dX9_reading_5 : decode cX9_reading 5 = .ok (.invokevirtual 187, 3) := by decide +kernel
theorem dX9_reading_8 : decode cX9_reading 8 = .ok (.ifCond .ne 13, 3) := by decide +kernel
theorem dX9_reading_11 : decode cX9_reading 11 = .ok (.new 107, 3) := by decide +kernel
theorem dX9_reading_14 : decode cX9_reading 14 = .ok (.dup, 1) := by decide +kernel
theorem dX9_reading_15 : decode cX9_reading 15 = .ok (.ldc 188, 2) := by decide +kernel
theorem dX9_reading_17 : decode cX9_reading 17 = .ok (.invokespecial 111, 3) := by decide +kernel
theorem dX9_reading_20 : decode cX9_reading 20 = .ok (.athrow, 1) := by decide +kernel
theorem dX9_reading_21 : decode cX9_reading 21 = .ok (.iload_n 2, 1) := by decide +kernel
theorem dX9_reading_22 : decode cX9_reading 22 = .ok (.invokestatic 76, 3) := by decide +kernel
theorem dX9_reading_25 : decode cX9_reading 25 = .ok (.ifCond .eq 21, 3) := by decide +kernel
theorem dX9_reading_28 : decode cX9_reading 28 = .ok (.iload_n 3, 1) := by decide +kernel
theorem dX9_reading_29 : decode cX9_reading 29 = .ok (.invokestatic 72, 3) := by decide +kernel
theorem dX9_reading_32 : decode cX9_reading 32 = .ok (.ifCond .eq 14, 3) := by decide +kernel
theorem dX9_reading_35 : decode cX9_reading 35 = .ok (.iload 4, 2) := by decide +kernel
theorem dX9_reading_37 : decode cX9_reading 37 = .ok (.iconst 0, 1) := by decide +kernel
theorem dX9_reading_38 : decode cX9_reading 38 = .ok (.bipush 9, 2) := by decide +kernel
theorem dX9_reading_40 : decode cX9_reading 40 = .ok (.invokestatic 80, 3) := by decide +kernel
theorem dX9_reading_43 : decode cX9_reading 43 = .ok (.ifCond .ne 13, 3) := by decide +kernel
theorem dX9_reading_46 : decode cX9_reading 46 = .ok (.new 84, 3) := by decide +kernel
theorem dX9_reading_49 : decode cX9_reading 49 = .ok (.dup, 1) := by decide +kernel
theorem dX9_reading_50 : decode cX9_reading 50 = .ok (.ldc 190, 2) := by decide +kernel
theorem dX9_reading_52 : decode cX9_reading 52 = .ok (.invokespecial 88, 3) := by decide +kernel
theorem dX9_reading_55 : decode cX9_reading 55 = .ok (.athrow, 1) := by decide +kernel
theorem dX9_reading_56 : decode cX9_reading 56 = .ok (.aload_n 0, 1) := by decide +kernel
theorem dX9_reading_57 : decode cX9_reading 57 = .ok (.getfield 54, 3) := by decide +kernel
theorem dX9_reading_60 : decode cX9_reading 60 = .ok (.invokevirtual 192, 3) := by decide +kernel
theorem dX9_reading_63 : decode cX9_reading 63 = .ok (.ifCond .eq 13, 3) := by decide +kernel
theorem dX9_reading_66 : decode cX9_reading 66 = .ok (.new 95, 3) := by decide +kernel
theorem dX9_reading_69 : decode cX9_reading 69 = .ok (.dup, 1) := by decide +kernel
theorem dX9_reading_70 : decode cX9_reading 70 = .ok (.ldc 195, 2) := by decide +kernel
theorem dX9_reading_72 : decode cX9_reading 72 = .ok (.invokespecial 99, 3) := by decide +kernel
theorem dX9_reading_75 : decode cX9_reading 75 = .ok (.athrow, 1) := by decide +kernel
theorem dX9_reading_76 : decode cX9_reading 76 = .ok (.aload_n 0, 1) := by decide +kernel
theorem dX9_reading_77 : decode cX9_reading 77 = .ok (.getfield 54, 3) := by decide +kernel
theorem dX9_reading_80 : decode cX9_reading 80 = .ok (.iload_n 1, 1) := by decide +kernel
theorem dX9_reading_81 : decode cX9_reading 81 = .ok (.iload_n 2, 1) := by decide +kernel
theorem dX9_reading_82 : decode cX9_reading 82 = .ok (.iload_n 3, 1) := by decide +kernel
theorem dX9_reading_83 : decode cX9_reading 83 = .ok (.iload 4, 2) := by decide +kernel
theorem dX9_reading_85 : decode cX9_reading 85 = .ok (.invokevirtual 197, 3) := by decide +kernel
theorem dX9_reading_88 : decode cX9_reading 88 = .ok (.ireturn, 1) := by decide +kernel
theorem dX9_fails_0 : decode cX9_fails 0 = .ok (.aload_n 0, 1) := by decide +kernel
theorem dX9_fails_1 : decode cX9_fails 1 = .ok (.getfield 54, 3) := by decide +kernel
theorem dX9_fails_4 : decode cX9_fails 4 = .ok (.iload_n 1, 1) := by decide +kernel
theorem dX9_fails_5 : decode cX9_fails 5 = .ok (.invokevirtual 187, 3) := by decide +kernel
theorem dX9_fails_8 : decode cX9_fails 8 = .ok (.ifCond .ne 13, 3) := by decide +kernel
theorem dX9_fails_11 : decode cX9_fails 11 = .ok (.new 107, 3) := by decide +kernel
theorem dX9_fails_14 : decode cX9_fails 14 = .ok (.dup, 1) := by decide +kernel
theorem dX9_fails_15 : decode cX9_fails 15 = .ok (.ldc 188, 2) := by decide +kernel
theorem dX9_fails_17 : decode cX9_fails 17 = .ok (.invokespecial 111, 3) := by decide +kernel
theorem dX9_fails_20 : decode cX9_fails 20 = .ok (.athrow, 1) := by decide +kernel
theorem dX9_fails_21 : decode cX9_fails 21 = .ok (.iload_n 2, 1) := by decide +kernel
theorem dX9_fails_22 : decode cX9_fails 22 = .ok (.invokestatic 76, 3) := by decide +kernel
theorem dX9_fails_25 : decode cX9_fails 25 = .ok (.ifCond .ne 13, 3) := by decide +kernel
theorem dX9_fails_28 : decode cX9_fails 28 = .ok (.new 84, 3) := by decide +kernel
theorem dX9_fails_31 : decode cX9_fails 31 = .ok (.dup, 1) := by decide +kernel
theorem dX9_fails_32 : decode cX9_fails 32 = .ok (.ldc 200, 2) := by decide +kernel
theorem dX9_fails_34 : decode cX9_fails 34 = .ok (.invokespecial 88, 3) := by decide +kernel
theorem dX9_fails_37 : decode cX9_fails 37 = .ok (.athrow, 1) := by decide +kernel
theorem dX9_fails_38 : decode cX9_fails 38 = .ok (.aload_n 0, 1) := by decide +kernel
theorem dX9_fails_39 : decode cX9_fails 39 = .ok (.getfield 54, 3) := by decide +kernel
theorem dX9_fails_42 : decode cX9_fails 42 = .ok (.iload_n 1, 1) := by decide +kernel
theorem dX9_fails_43 : decode cX9_fails 43 = .ok (.sipush 2199, 3) := by decide +kernel
theorem dX9_fails_46 : decode cX9_fails 46 = .ok (.invokevirtual 202, 3) := by decide +kernel
theorem dX9_fails_49 : decode cX9_fails 49 = .ok (.ifCond .eq 13, 3) := by decide +kernel
theorem dX9_fails_52 : decode cX9_fails 52 = .ok (.new 95, 3) := by decide +kernel
theorem dX9_fails_55 : decode cX9_fails 55 = .ok (.dup, 1) := by decide +kernel
theorem dX9_fails_56 : decode cX9_fails 56 = .ok (.ldc 205, 2) := by decide +kernel
theorem dX9_fails_58 : decode cX9_fails 58 = .ok (.invokespecial 99, 3) := by decide +kernel
theorem dX9_fails_61 : decode cX9_fails 61 = .ok (.athrow, 1) := by decide +kernel
theorem dX9_fails_62 : decode cX9_fails 62 = .ok (.aload_n 0, 1) := by decide +kernel
theorem dX9_fails_63 : decode cX9_fails 63 = .ok (.getfield 54, 3) := by decide +kernel
theorem dX9_fails_66 : decode cX9_fails 66 = .ok (.iload_n 1, 1) := by decide +kernel
theorem dX9_fails_67 : decode cX9_fails 67 = .ok (.iload_n 2, 1) := by decide +kernel
theorem dX9_fails_68 : decode cX9_fails 68 = .ok (.invokevirtual 207, 3) := by decide +kernel
theorem dX9_fails_71 : decode cX9_fails 71 = .ok (.ireturn, 1) := by decide +kernel
theorem dX9_bond_0 : decode cX9_bond 0 = .ok (.iload_n 2, 1) := by decide +kernel
theorem dX9_bond_1 : decode cX9_bond 1 = .ok (.invokestatic 72, 3) := by decide +kernel
theorem dX9_bond_4 : decode cX9_bond 4 = .ok (.ifCond .eq 27, 3) := by decide +kernel
theorem dX9_bond_7 : decode cX9_bond 7 = .ok (.iload_n 3, 1) := by decide +kernel
theorem dX9_bond_8 : decode cX9_bond 8 = .ok (.iconst 1, 1) := by decide +kernel
theorem dX9_bond_9 : decode cX9_bond 9 = .ok (.ldc 210, 2) := by decide +kernel
theorem dX9_bond_11 : decode cX9_bond 11 = .ok (.invokestatic 80, 3) := by decide +kernel
theorem dX9_bond_14 : decode cX9_bond 14 = .ok (.ifCond .eq 17, 3) := by decide +kernel
theorem dX9_bond_17 : decode cX9_bond 17 = .ok (.iload 4, 2) := by decide +kernel
theorem dX9_bond_19 : decode cX9_bond 19 = .ok (.iload 5, 2) := by decide +kernel
theorem dX9_bond_21 : decode cX9_bond 21 = .ok (.invokestatic 118, 3) := by decide +kernel
theorem dX9_bond_24 : decode cX9_bond 24 = .ok (.ifCond .eq 7, 3) := by decide +kernel
theorem dX9_bond_27 : decode cX9_bond 27 = .ok (.iconst 1, 1) := by decide +kernel
theorem dX9_bond_28 : decode cX9_bond 28 = .ok (.goto 4, 3) := by decide +kernel
theorem dX9_bond_31 : decode cX9_bond 31 = .ok (.iconst 0, 1) := by decide +kernel
theorem dX9_bond_32 : decode cX9_bond 32 = .ok (.istore 8, 2) := by decide +kernel
theorem dX9_bond_34 : decode cX9_bond 34 = .ok (.iload 6, 2) := by decide +kernel
theorem dX9_bond_36 : decode cX9_bond 36 = .ok (.iconst 1, 1) := by decide +kernel
theorem dX9_bond_37 : decode cX9_bond 37 = .ok (.bipush 9, 2) := by decide +kernel
theorem dX9_bond_39 : decode cX9_bond 39 = .ok (.invokestatic 80, 3) := by decide +kernel
theorem dX9_bond_42 : decode cX9_bond 42 = .ok (.ifCond .eq 18, 3) := by decide +kernel
theorem dX9_bond_45 : decode cX9_bond 45 = .ok (.iload 7, 2) := by decide +kernel
theorem dX9_bond_47 : decode cX9_bond 47 = .ok (.iconst 1, 1) := by decide +kernel
theorem dX9_bond_48 : decode cX9_bond 48 = .ok (.bipush 100, 2) := by decide +kernel
theorem dX9_bond_50 : decode cX9_bond 50 = .ok (.invokestatic 80, 3) := by decide +kernel
theorem dX9_bond_53 : decode cX9_bond 53 = .ok (.ifCond .eq 7, 3) := by decide +kernel
theorem dX9_bond_56 : decode cX9_bond 56 = .ok (.iconst 1, 1) := by decide +kernel
theorem dX9_bond_57 : decode cX9_bond 57 = .ok (.goto 4, 3) := by decide +kernel
theorem dX9_bond_60 : decode cX9_bond 60 = .ok (.iconst 0, 1) := by decide +kernel
theorem dX9_bond_61 : decode cX9_bond 61 = .ok (.istore 9, 2) := by decide +kernel
theorem dX9_bond_63 : decode cX9_bond 63 = .ok (.iload_n 1, 1) := by decide +kernel
theorem dX9_bond_64 : decode cX9_bond 64 = .ok (.iconst 1, 1) := by decide +kernel
theorem dX9_bond_65 : decode cX9_bond 65 = .ok (.ldc 149, 2) := by decide +kernel
theorem dX9_bond_67 : decode cX9_bond 67 = .ok (.invokestatic 80, 3) := by decide +kernel
theorem dX9_bond_70 : decode cX9_bond 70 = .ok (.ifCond .eq 13, 3) := by decide +kernel
theorem dX9_bond_73 : decode cX9_bond 73 = .ok (.iload 8, 2) := by decide +kernel
theorem dX9_bond_75 : decode cX9_bond 75 = .ok (.ifCond .eq 8, 3) := by decide +kernel
theorem dX9_bond_78 : decode cX9_bond 78 = .ok (.iload 9, 2) := by decide +kernel
theorem dX9_bond_80 : decode cX9_bond 80 = .ok (.ifCond .ne 13, 3) := by decide +kernel
theorem dX9_bond_83 : decode cX9_bond 83 = .ok (.new 84, 3) := by decide +kernel
theorem dX9_bond_86 : decode cX9_bond 86 = .ok (.dup, 1) := by decide +kernel
theorem dX9_bond_87 : decode cX9_bond 87 = .ok (.ldc 150, 2) := by decide +kernel
theorem dX9_bond_89 : decode cX9_bond 89 = .ok (.invokespecial 88, 3) := by decide +kernel
theorem dX9_bond_92 : decode cX9_bond 92 = .ok (.athrow, 1) := by decide +kernel
theorem dX9_bond_93 : decode cX9_bond 93 = .ok (.aload_n 0, 1) := by decide +kernel
theorem dX9_bond_94 : decode cX9_bond 94 = .ok (.getfield 61, 3) := by decide +kernel
theorem dX9_bond_97 : decode cX9_bond 97 = .ok (.invokevirtual 211, 3) := by decide +kernel
theorem dX9_bond_100 : decode cX9_bond 100 = .ok (.ifCond .ne 12, 3) := by decide +kernel
theorem dX9_bond_103 : decode cX9_bond 103 = .ok (.iload 5, 2) := by decide +kernel
theorem dX9_bond_105 : decode cX9_bond 105 = .ok (.aload_n 0, 1) := by decide +kernel
theorem dX9_bond_106 : decode cX9_bond 106 = .ok (.getfield 212, 3) := by decide +kernel
theorem dX9_bond_109 : decode cX9_bond 109 = .ok (.if_icmp .ge 13, 3) := by decide +kernel
theorem dX9_bond_112 : decode cX9_bond 112 = .ok (.new 95, 3) := by decide +kernel
theorem dX9_bond_115 : decode cX9_bond 115 = .ok (.dup, 1) := by decide +kernel
theorem dX9_bond_116 : decode cX9_bond 116 = .ok (.ldc 216, 2) := by decide +kernel
theorem dX9_bond_118 : decode cX9_bond 118 = .ok (.invokespecial 99, 3) := by decide +kernel
theorem dX9_bond_121 : decode cX9_bond 121 = .ok (.athrow, 1) := by decide +kernel
theorem dX9_bond_122 : decode cX9_bond 122 = .ok (.aload_n 0, 1) := by decide +kernel
theorem dX9_bond_123 : decode cX9_bond 123 = .ok (.getfield 61, 3) := by decide +kernel
theorem dX9_bond_126 : decode cX9_bond 126 = .ok (.iload_n 1, 1) := by decide +kernel
theorem dX9_bond_127 : decode cX9_bond 127 = .ok (.iload_n 2, 1) := by decide +kernel
theorem dX9_bond_128 : decode cX9_bond 128 = .ok (.iload_n 3, 1) := by decide +kernel
theorem dX9_bond_129 : decode cX9_bond 129 = .ok (.iload 4, 2) := by decide +kernel
theorem dX9_bond_131 : decode cX9_bond 131 = .ok (.iload 5, 2) := by decide +kernel
theorem dX9_bond_133 : decode cX9_bond 133 = .ok (.iload 6, 2) := by decide +kernel
theorem dX9_bond_135 : decode cX9_bond 135 = .ok (.iload 7, 2) := by decide +kernel
theorem dX9_bond_137 : decode cX9_bond 137 = .ok (.invokevirtual 218, 3) := by decide +kernel
theorem dX9_bond_140 : decode cX9_bond 140 = .ok (.ireturn, 1) := by decide +kernel
theorem dX9_extend_0 : decode cX9_extend 0 = .ok (.aload_n 0, 1) := by decide +kernel
theorem dX9_extend_1 : decode cX9_extend 1 = .ok (.getfield 61, 3) := by decide +kernel
theorem dX9_extend_4 : decode cX9_extend 4 = .ok (.iload_n 1, 1) := by decide +kernel
theorem dX9_extend_5 : decode cX9_extend 5 = .ok (.invokevirtual 221, 3) := by decide +kernel
theorem dX9_extend_8 : decode cX9_extend 8 = .ok (.ifCond .ne 13, 3) := by decide +kernel
theorem dX9_extend_11 : decode cX9_extend 11 = .ok (.new 107, 3) := by decide +kernel
theorem dX9_extend_14 : decode cX9_extend 14 = .ok (.dup, 1) := by decide +kernel
theorem dX9_extend_15 : decode cX9_extend 15 = .ok (.ldc 222, 2) := by decide +kernel
theorem dX9_extend_17 : decode cX9_extend 17 = .ok (.invokespecial 111, 3) := by decide +kernel
theorem dX9_extend_20 : decode cX9_extend 20 = .ok (.athrow, 1) := by decide +kernel
theorem dX9_extend_21 : decode cX9_extend 21 = .ok (.iload_n 2, 1) := by decide +kernel
theorem dX9_extend_22 : decode cX9_extend 22 = .ok (.iconst 1, 1) := by decide +kernel
theorem dX9_extend_23 : decode cX9_extend 23 = .ok (.sipush 500, 3) := by decide +kernel
theorem dX9_extend_26 : decode cX9_extend 26 = .ok (.invokestatic 80, 3) := by decide +kernel
theorem dX9_extend_29 : decode cX9_extend 29 = .ok (.ifCond .ne 13, 3) := by decide +kernel
theorem dX9_extend_32 : decode cX9_extend 32 = .ok (.new 84, 3) := by decide +kernel
theorem dX9_extend_35 : decode cX9_extend 35 = .ok (.dup, 1) := by decide +kernel
theorem dX9_extend_36 : decode cX9_extend 36 = .ok (.ldc 224, 2) := by decide +kernel
theorem dX9_extend_38 : decode cX9_extend 38 = .ok (.invokespecial 88, 3) := by decide +kernel
theorem dX9_extend_41 : decode cX9_extend 41 = .ok (.athrow, 1) := by decide +kernel
theorem dX9_extend_42 : decode cX9_extend 42 = .ok (.aload_n 0, 1) := by decide +kernel
theorem dX9_extend_43 : decode cX9_extend 43 = .ok (.getfield 61, 3) := by decide +kernel
theorem dX9_extend_46 : decode cX9_extend 46 = .ok (.iload_n 1, 1) := by decide +kernel
theorem dX9_extend_47 : decode cX9_extend 47 = .ok (.invokevirtual 226, 3) := by decide +kernel
theorem dX9_extend_50 : decode cX9_extend 50 = .ok (.ifCond .ne 18, 3) := by decide +kernel
theorem dX9_extend_53 : decode cX9_extend 53 = .ok (.aload_n 0, 1) := by decide +kernel
theorem dX9_extend_54 : decode cX9_extend 54 = .ok (.getfield 61, 3) := by decide +kernel
theorem dX9_extend_57 : decode cX9_extend 57 = .ok (.iload_n 1, 1) := by decide +kernel
theorem dX9_extend_58 : decode cX9_extend 58 = .ok (.aload_n 0, 1) := by decide +kernel
theorem dX9_extend_59 : decode cX9_extend 59 = .ok (.getfield 212, 3) := by decide +kernel
theorem dX9_extend_62 : decode cX9_extend 62 = .ok (.invokevirtual 229, 3) := by decide +kernel
theorem dX9_extend_65 : decode cX9_extend 65 = .ok (.ifCond .ne 13, 3) := by decide +kernel
theorem dX9_extend_68 : decode cX9_extend 68 = .ok (.new 95, 3) := by decide +kernel
theorem dX9_extend_71 : decode cX9_extend 71 = .ok (.dup, 1) := by decide +kernel
theorem dX9_extend_72 : decode cX9_extend 72 = .ok (.ldc 232, 2) := by decide +kernel
theorem dX9_extend_74 : decode cX9_extend 74 = .ok (.invokespecial 99, 3) := by decide +kernel
theorem dX9_extend_77 : decode cX9_extend 77 = .ok (.athrow, 1) := by decide +kernel
theorem dX9_extend_78 : decode cX9_extend 78 = .ok (.aload_n 0, 1) := by decide +kernel
theorem dX9_extend_79 : decode cX9_extend 79 = .ok (.getfield 61, 3) := by decide +kernel
theorem dX9_extend_82 : decode cX9_extend 82 = .ok (.iload_n 1, 1) := by decide +kernel
theorem dX9_extend_83 : decode cX9_extend 83 = .ok (.iload_n 2, 1) := by decide +kernel
theorem dX9_extend_84 : decode cX9_extend 84 = .ok (.invokevirtual 234, 3) := by decide +kernel
theorem dX9_extend_87 : decode cX9_extend 87 = .ok (.ireturn, 1) := by decide +kernel
theorem dX9_pass_0 : decode cX9_pass 0 = .ok (.iload_n 1, 1) := by decide +kernel
theorem dX9_pass_1 : decode cX9_pass 1 = .ok (.iconst 1, 1) := by decide +kernel
theorem dX9_pass_2 : decode cX9_pass 2 = .ok (.sipush 500, 3) := by decide +kernel
theorem dX9_pass_5 : decode cX9_pass 5 = .ok (.invokestatic 80, 3) := by decide +kernel
theorem dX9_pass_8 : decode cX9_pass 8 = .ok (.ifCond .ne 13, 3) := by decide +kernel
theorem dX9_pass_11 : decode cX9_pass 11 = .ok (.new 84, 3) := by decide +kernel
theorem dX9_pass_14 : decode cX9_pass 14 = .ok (.dup, 1) := by decide +kernel
theorem dX9_pass_15 : decode cX9_pass 15 = .ok (.ldc 224, 2) := by decide +kernel
theorem dX9_pass_17 : decode cX9_pass 17 = .ok (.invokespecial 88, 3) := by decide +kernel
theorem dX9_pass_20 : decode cX9_pass 20 = .ok (.athrow, 1) := by decide +kernel
theorem dX9_pass_21 : decode cX9_pass 21 = .ok (.aload_n 0, 1) := by decide +kernel
theorem dX9_pass_22 : decode cX9_pass 22 = .ok (.getfield 212, 3) := by decide +kernel
theorem dX9_pass_25 : decode cX9_pass 25 = .ok (.iload_n 1, 1) := by decide +kernel
theorem dX9_pass_26 : decode cX9_pass 26 = .ok (.iadd, 1) := by decide +kernel
theorem dX9_pass_27 : decode cX9_pass 27 = .ok (.sipush 2199, 3) := by decide +kernel
theorem dX9_pass_30 : decode cX9_pass 30 = .ok (.if_icmp .le 13, 3) := by decide +kernel
theorem dX9_pass_33 : decode cX9_pass 33 = .ok (.new 95, 3) := by decide +kernel
theorem dX9_pass_36 : decode cX9_pass 36 = .ok (.dup, 1) := by decide +kernel
theorem dX9_pass_37 : decode cX9_pass 37 = .ok (.ldc 237, 2) := by decide +kernel
theorem dX9_pass_39 : decode cX9_pass 39 = .ok (.invokespecial 99, 3) := by decide +kernel
theorem dX9_pass_42 : decode cX9_pass 42 = .ok (.athrow, 1) := by decide +kernel
theorem dX9_pass_43 : decode cX9_pass 43 = .ok (.aload_n 0, 1) := by decide +kernel
theorem dX9_pass_44 : decode cX9_pass 44 = .ok (.dup, 1) := by decide +kernel
theorem dX9_pass_45 : decode cX9_pass 45 = .ok (.getfield 212, 3) := by decide +kernel
theorem dX9_pass_48 : decode cX9_pass 48 = .ok (.iload_n 1, 1) := by decide +kernel
theorem dX9_pass_49 : decode cX9_pass 49 = .ok (.iadd, 1) := by decide +kernel
theorem dX9_pass_50 : decode cX9_pass 50 = .ok (.putfield 212, 3) := by decide +kernel
theorem dX9_pass_53 : decode cX9_pass 53 = .ok (.aload_n 0, 1) := by decide +kernel
theorem dX9_pass_54 : decode cX9_pass 54 = .ok (.getfield 212, 3) := by decide +kernel
theorem dX9_pass_57 : decode cX9_pass 57 = .ok (.ireturn, 1) := by decide +kernel
theorem dX9_scenario_0 : decode cX9_scenario 0 = .ok (.iload_n 1, 1) := by decide +kernel
theorem dX9_scenario_1 : decode cX9_scenario 1 = .ok (.invokestatic 239, 3) := by decide +kernel
theorem dX9_scenario_4 : decode cX9_scenario 4 = .ok (.ifCond .ne 13, 3) := by decide +kernel
theorem dX9_scenario_7 : decode cX9_scenario 7 = .ok (.new 107, 3) := by decide +kernel
theorem dX9_scenario_10 : decode cX9_scenario 10 = .ok (.dup, 1) := by decide +kernel
theorem dX9_scenario_11 : decode cX9_scenario 11 = .ok (.ldc 242, 2) := by decide +kernel
theorem dX9_scenario_13 : decode cX9_scenario 13 = .ok (.invokespecial 111, 3) := by decide +kernel
theorem dX9_scenario_16 : decode cX9_scenario 16 = .ok (.athrow, 1) := by decide +kernel
theorem dX9_scenario_17 : decode cX9_scenario 17 = .ok (.iload_n 2, 1) := by decide +kernel
theorem dX9_scenario_18 : decode cX9_scenario 18 = .ok (.iconst 1, 1) := by decide +kernel
theorem dX9_scenario_19 : decode cX9_scenario 19 = .ok (.bipush 99, 2) := by decide +kernel
theorem dX9_scenario_21 : decode cX9_scenario 21 = .ok (.invokestatic 80, 3) := by decide +kernel
theorem dX9_scenario_24 : decode cX9_scenario 24 = .ok (.ifCond .eq 13, 3) := by decide +kernel
theorem dX9_scenario_27 : decode cX9_scenario 27 = .ok (.iload_n 3, 1) := by decide +kernel
theorem dX9_scenario_28 : decode cX9_scenario 28 = .ok (.iconst 0, 1) := by decide +kernel
theorem dX9_scenario_29 : decode cX9_scenario 29 = .ok (.ldc 149, 2) := by decide +kernel
theorem dX9_scenario_31 : decode cX9_scenario 31 = .ok (.invokestatic 80, 3) := by decide +kernel
theorem dX9_scenario_34 : decode cX9_scenario 34 = .ok (.ifCond .ne 13, 3) := by decide +kernel
theorem dX9_scenario_37 : decode cX9_scenario 37 = .ok (.new 84, 3) := by decide +kernel
theorem dX9_scenario_40 : decode cX9_scenario 40 = .ok (.dup, 1) := by decide +kernel
theorem dX9_scenario_41 : decode cX9_scenario 41 = .ok (.ldc 244, 2) := by decide +kernel
theorem dX9_scenario_43 : decode cX9_scenario 43 = .ok (.invokespecial 88, 3) := by decide +kernel
theorem dX9_scenario_46 : decode cX9_scenario 46 = .ok (.athrow, 1) := by decide +kernel
theorem dX9_scenario_47 : decode cX9_scenario 47 = .ok (.aload_n 0, 1) := by decide +kernel
theorem dX9_scenario_48 : decode cX9_scenario 48 = .ok (.getfield 68, 3) := by decide +kernel
theorem dX9_scenario_51 : decode cX9_scenario 51 = .ok (.iload_n 1, 1) := by decide +kernel
theorem dX9_scenario_52 : decode cX9_scenario 52 = .ok (.invokevirtual 246, 3) := by decide +kernel
theorem dX9_scenario_55 : decode cX9_scenario 55 = .ok (.ifCond .eq 13, 3) := by decide +kernel
theorem dX9_scenario_58 : decode cX9_scenario 58 = .ok (.new 95, 3) := by decide +kernel
theorem dX9_scenario_61 : decode cX9_scenario 61 = .ok (.dup, 1) := by decide +kernel
theorem dX9_scenario_62 : decode cX9_scenario 62 = .ok (.ldc 248, 2) := by decide +kernel
theorem dX9_scenario_64 : decode cX9_scenario 64 = .ok (.invokespecial 99, 3) := by decide +kernel
theorem dX9_scenario_67 : decode cX9_scenario 67 = .ok (.athrow, 1) := by decide +kernel
theorem dX9_scenario_68 : decode cX9_scenario 68 = .ok (.aload_n 0, 1) := by decide +kernel
theorem dX9_scenario_69 : decode cX9_scenario 69 = .ok (.getfield 68, 3) := by decide +kernel
theorem dX9_scenario_72 : decode cX9_scenario 72 = .ok (.iload_n 1, 1) := by decide +kernel
theorem dX9_scenario_73 : decode cX9_scenario 73 = .ok (.iload_n 2, 1) := by decide +kernel
theorem dX9_scenario_74 : decode cX9_scenario 74 = .ok (.iload_n 3, 1) := by decide +kernel
theorem dX9_scenario_75 : decode cX9_scenario 75 = .ok (.invokevirtual 250, 3) := by decide +kernel
theorem dX9_scenario_78 : decode cX9_scenario 78 = .ok (.ireturn, 1) := by decide +kernel
theorem dX9_occurrence_0 : decode cX9_occurrence 0 = .ok (.aload_n 0, 1) := by decide +kernel
theorem dX9_occurrence_1 : decode cX9_occurrence 1 = .ok (.getfield 19, 3) := by decide +kernel
theorem dX9_occurrence_4 : decode cX9_occurrence 4 = .ok (.iload_n 1, 1) := by decide +kernel
theorem dX9_occurrence_5 : decode cX9_occurrence 5 = .ok (.invokevirtual 251, 3) := by decide +kernel
theorem dX9_occurrence_8 : decode cX9_occurrence 8 = .ok (.ifCond .ne 13, 3) := by decide +kernel
theorem dX9_occurrence_11 : decode cX9_occurrence 11 = .ok (.new 107, 3) := by decide +kernel
theorem dX9_occurrence_14 : decode cX9_occurrence 14 = .ok (.dup, 1) := by decide +kernel
theorem dX9_occurrence_15 : decode cX9_occurrence 15 = .ok (.ldc 252, 2) := by decide +kernel
theorem dX9_occurrence_17 : decode cX9_occurrence 17 = .ok (.invokespecial 111, 3) := by decide +kernel
theorem dX9_occurrence_20 : decode cX9_occurrence 20 = .ok (.athrow, 1) := by decide +kernel
theorem dX9_occurrence_21 : decode cX9_occurrence 21 = .ok (.iload_n 2, 1) := by decide +kernel
theorem dX9_occurrence_22 : decode cX9_occurrence 22 = .ok (.iconst 0, 1) := by decide +kernel
theorem dX9_occurrence_23 : decode cX9_occurrence 23 = .ok (.iconst 5, 1) := by decide +kernel
theorem dX9_occurrence_24 : decode cX9_occurrence 24 = .ok (.invokestatic 80, 3) := by decide +kernel
theorem dX9_occurrence_27 : decode cX9_occurrence 27 = .ok (.ifCond .ne 13, 3) := by decide +kernel
theorem dX9_occurrence_30 : decode cX9_occurrence 30 = .ok (.new 84, 3) := by decide +kernel
theorem dX9_occurrence_33 : decode cX9_occurrence 33 = .ok (.dup, 1) := by decide +kernel
theorem dX9_occurrence_34 : decode cX9_occurrence 34 = .ok (.ldc 254, 2) := by decide +kernel
theorem dX9_occurrence_36 : decode cX9_occurrence 36 = .ok (.invokespecial 88, 3) := by decide +kernel
theorem dX9_occurrence_39 : decode cX9_occurrence 39 = .ok (.athrow, 1) := by decide +kernel
theorem dX9_occurrence_40 : decode cX9_occurrence 40 = .ok (.aload_n 0, 1) := by decide +kernel
theorem dX9_occurrence_41 : decode cX9_occurrence 41 = .ok (.getfield 33, 3) := by decide +kernel
theorem dX9_occurrence_44 : decode cX9_occurrence 44 = .ok (.aload_n 0, 1) := by decide +kernel
theorem dX9_occurrence_45 : decode cX9_occurrence 45 = .ok (.getfield 12, 3) := by decide +kernel
theorem dX9_occurrence_48 : decode cX9_occurrence 48 = .ok (.aload_n 0, 1) := by decide +kernel
theorem dX9_occurrence_49 : decode cX9_occurrence 49 = .ok (.getfield 19, 3) := by decide +kernel
theorem dX9_occurrence_52 : decode cX9_occurrence 52 = .ok (.aload_n 0, 1) := by decide +kernel
theorem dX9_occurrence_53 : decode cX9_occurrence 53 = .ok (.getfield 26, 3) := by decide +kernel
theorem dX9_occurrence_56 : decode cX9_occurrence 56 = .ok (.invokevirtual 256, 3) := by decide +kernel
theorem dX9_occurrence_59 : decode cX9_occurrence 59 = .ok (.aload_n 0, 1) := by decide +kernel
theorem dX9_occurrence_60 : decode cX9_occurrence 60 = .ok (.getfield 33, 3) := by decide +kernel
theorem dX9_occurrence_63 : decode cX9_occurrence 63 = .ok (.iload_n 1, 1) := by decide +kernel
theorem dX9_occurrence_64 : decode cX9_occurrence 64 = .ok (.iload_n 2, 1) := by decide +kernel
theorem dX9_occurrence_65 : decode cX9_occurrence 65 = .ok (.invokevirtual 260, 3) := by decide +kernel
theorem dX9_occurrence_68 : decode cX9_occurrence 68 = .ok (.ireturn, 1) := by decide +kernel
theorem dX9_hit_0 : decode cX9_hit 0 = .ok (.aload_n 0, 1) := by decide +kernel
theorem dX9_hit_1 : decode cX9_hit 1 = .ok (.getfield 26, 3) := by decide +kernel
theorem dX9_hit_4 : decode cX9_hit 4 = .ok (.iload_n 1, 1) := by decide +kernel
theorem dX9_hit_5 : decode cX9_hit 5 = .ok (.invokevirtual 158, 3) := by decide +kernel
theorem dX9_hit_8 : decode cX9_hit 8 = .ok (.ifCond .eq 14, 3) := by decide +kernel
theorem dX9_hit_11 : decode cX9_hit 11 = .ok (.aload_n 0, 1) := by decide +kernel
theorem dX9_hit_12 : decode cX9_hit 12 = .ok (.getfield 19, 3) := by decide +kernel
theorem dX9_hit_15 : decode cX9_hit 15 = .ok (.iload_n 2, 1) := by decide +kernel
theorem dX9_hit_16 : decode cX9_hit 16 = .ok (.invokevirtual 251, 3) := by decide +kernel
theorem dX9_hit_19 : decode cX9_hit 19 = .ok (.ifCond .ne 14, 3) := by decide +kernel
theorem dX9_hit_22 : decode cX9_hit 22 = .ok (.new 107, 3) := by decide +kernel
theorem dX9_hit_25 : decode cX9_hit 25 = .ok (.dup, 1) := by decide +kernel
theorem dX9_hit_26 : decode cX9_hit 26 = .ok (.ldc_w 263, 3) := by decide +kernel
theorem dX9_hit_29 : decode cX9_hit 29 = .ok (.invokespecial 111, 3) := by decide +kernel
theorem dX9_hit_32 : decode cX9_hit 32 = .ok (.athrow, 1) := by decide +kernel
theorem dX9_hit_33 : decode cX9_hit 33 = .ok (.iload_n 3, 1) := by decide +kernel
theorem dX9_hit_34 : decode cX9_hit 34 = .ok (.iconst 0, 1) := by decide +kernel
theorem dX9_hit_35 : decode cX9_hit 35 = .ok (.iconst 4, 1) := by decide +kernel
theorem dX9_hit_36 : decode cX9_hit 36 = .ok (.invokestatic 80, 3) := by decide +kernel
theorem dX9_hit_39 : decode cX9_hit 39 = .ok (.ifCond .ne 13, 3) := by decide +kernel
theorem dX9_hit_42 : decode cX9_hit 42 = .ok (.new 84, 3) := by decide +kernel
theorem dX9_hit_45 : decode cX9_hit 45 = .ok (.dup, 1) := by decide +kernel
theorem dX9_hit_46 : decode cX9_hit 46 = .ok (.ldc 254, 2) := by decide +kernel
theorem dX9_hit_48 : decode cX9_hit 48 = .ok (.invokespecial 88, 3) := by decide +kernel
theorem dX9_hit_51 : decode cX9_hit 51 = .ok (.athrow, 1) := by decide +kernel
theorem dX9_hit_52 : decode cX9_hit 52 = .ok (.aload_n 0, 1) := by decide +kernel
theorem dX9_hit_53 : decode cX9_hit 53 = .ok (.getfield 33, 3) := by decide +kernel
theorem dX9_hit_56 : decode cX9_hit 56 = .ok (.aload_n 0, 1) := by decide +kernel
theorem dX9_hit_57 : decode cX9_hit 57 = .ok (.getfield 12, 3) := by decide +kernel
theorem dX9_hit_60 : decode cX9_hit 60 = .ok (.aload_n 0, 1) := by decide +kernel
theorem dX9_hit_61 : decode cX9_hit 61 = .ok (.getfield 19, 3) := by decide +kernel
theorem dX9_hit_64 : decode cX9_hit 64 = .ok (.aload_n 0, 1) := by decide +kernel
theorem dX9_hit_65 : decode cX9_hit 65 = .ok (.getfield 26, 3) := by decide +kernel
theorem dX9_hit_68 : decode cX9_hit 68 = .ok (.invokevirtual 256, 3) := by decide +kernel
theorem dX9_hit_71 : decode cX9_hit 71 = .ok (.aload_n 0, 1) := by decide +kernel
theorem dX9_hit_72 : decode cX9_hit 72 = .ok (.getfield 33, 3) := by decide +kernel
theorem dX9_hit_75 : decode cX9_hit 75 = .ok (.iload_n 1, 1) := by decide +kernel
theorem dX9_hit_76 : decode cX9_hit 76 = .ok (.iload_n 2, 1) := by decide +kernel
theorem dX9_hit_77 : decode cX9_hit 77 = .ok (.iload_n 3, 1) := by decide +kernel
theorem dX9_hit_78 : decode cX9_hit 78 = .ok (.invokevirtual 265, 3) := by decide +kernel
theorem dX9_hit_81 : decode cX9_hit 81 = .ok (.ireturn, 1) := by decide +kernel
theorem dX9_sum_0 : decode cX9_sum 0 = .ok (.iload_n 1, 1) := by decide +kernel
theorem dX9_sum_1 : decode cX9_sum 1 = .ok (.iconst 0, 1) := by decide +kernel
theorem dX9_sum_2 : decode cX9_sum 2 = .ok (.bipush 7, 2) := by decide +kernel
theorem dX9_sum_4 : decode cX9_sum 4 = .ok (.invokestatic 80, 3) := by decide +kernel
theorem dX9_sum_7 : decode cX9_sum 7 = .ok (.ifCond .ne 13, 3) := by decide +kernel
theorem dX9_sum_10 : decode cX9_sum 10 = .ok (.new 84, 3) := by decide +kernel
theorem dX9_sum_13 : decode cX9_sum 13 = .ok (.dup, 1) := by decide +kernel
theorem dX9_sum_14 : decode cX9_sum 14 = .ok (.ldc 254, 2) := by decide +kernel
theorem dX9_sum_16 : decode cX9_sum 16 = .ok (.invokespecial 88, 3) := by decide +kernel
theorem dX9_sum_19 : decode cX9_sum 19 = .ok (.athrow, 1) := by decide +kernel
theorem dX9_sum_20 : decode cX9_sum 20 = .ok (.aload_n 0, 1) := by decide +kernel
theorem dX9_sum_21 : decode cX9_sum 21 = .ok (.invokevirtual 268, 3) := by decide +kernel
theorem dX9_sum_24 : decode cX9_sum 24 = .ok (.iload_n 1, 1) := by decide +kernel
theorem dX9_sum_25 : decode cX9_sum 25 = .ok (.tableswitch 120 0 6 #[43, 51, 67, 75, 83, 107, 115], 43) := by decide +kernel
theorem dX9_sum_68 : decode cX9_sum 68 = .ok (.aload_n 0, 1) := by decide +kernel
theorem dX9_sum_69 : decode cX9_sum 69 = .ok (.getfield 12, 3) := by decide +kernel
theorem dX9_sum_72 : decode cX9_sum 72 = .ok (.invokevirtual 271, 3) := by decide +kernel
theorem dX9_sum_75 : decode cX9_sum 75 = .ok (.ireturn, 1) := by decide +kernel
theorem dX9_sum_76 : decode cX9_sum 76 = .ok (.aload_n 0, 1) := by decide +kernel
theorem dX9_sum_77 : decode cX9_sum 77 = .ok (.getfield 12, 3) := by decide +kernel
theorem dX9_sum_80 : decode cX9_sum 80 = .ok (.invokevirtual 271, 3) := by decide +kernel
theorem dX9_sum_83 : decode cX9_sum 83 = .ok (.aload_n 0, 1) := by decide +kernel
theorem dX9_sum_84 : decode cX9_sum 84 = .ok (.getfield 33, 3) := by decide +kernel
theorem dX9_sum_87 : decode cX9_sum 87 = .ok (.invokevirtual 274, 3) := by decide +kernel
theorem dX9_sum_90 : decode cX9_sum 90 = .ok (.isub, 1) := by decide +kernel
theorem dX9_sum_91 : decode cX9_sum 91 = .ok (.ireturn, 1) := by decide +kernel
theorem dX9_sum_92 : decode cX9_sum 92 = .ok (.aload_n 0, 1) := by decide +kernel
theorem dX9_sum_93 : decode cX9_sum 93 = .ok (.getfield 33, 3) := by decide +kernel
theorem dX9_sum_96 : decode cX9_sum 96 = .ok (.invokevirtual 277, 3) := by decide +kernel
theorem dX9_sum_99 : decode cX9_sum 99 = .ok (.ireturn, 1) := by decide +kernel
theorem dX9_sum_100 : decode cX9_sum 100 = .ok (.aload_n 0, 1) := by decide +kernel
theorem dX9_sum_101 : decode cX9_sum 101 = .ok (.getfield 33, 3) := by decide +kernel
theorem dX9_sum_104 : decode cX9_sum 104 = .ok (.invokevirtual 280, 3) := by decide +kernel
theorem dX9_sum_107 : decode cX9_sum 107 = .ok (.ireturn, 1) := by decide +kernel
theorem dX9_sum_108 : decode cX9_sum 108 = .ok (.aload_n 0, 1) := by decide +kernel
theorem dX9_sum_109 : decode cX9_sum 109 = .ok (.getfield 33, 3) := by decide +kernel
theorem dX9_sum_112 : decode cX9_sum 112 = .ok (.invokevirtual 277, 3) := by decide +kernel
theorem dX9_sum_115 : decode cX9_sum 115 = .ok (.aload_n 0, 1) := by decide +kernel
theorem dX9_sum_116 : decode cX9_sum 116 = .ok (.getfield 33, 3) := by decide +kernel
theorem dX9_sum_119 : decode cX9_sum 119 = .ok (.invokevirtual 280, 3) := by decide +kernel
theorem dX9_sum_122 : decode cX9_sum 122 = .ok (.iadd, 1) := by decide +kernel
theorem dX9_sum_123 : decode cX9_sum 123 = .ok (.aload_n 0, 1) := by decide +kernel
theorem dX9_sum_124 : decode cX9_sum 124 = .ok (.getfield 40, 3) := by decide +kernel
theorem dX9_sum_127 : decode cX9_sum 127 = .ok (.invokevirtual 283, 3) := by decide +kernel
theorem dX9_sum_130 : decode cX9_sum 130 = .ok (.isub, 1) := by decide +kernel
theorem dX9_sum_131 : decode cX9_sum 131 = .ok (.ireturn, 1) := by decide +kernel
theorem dX9_sum_132 : decode cX9_sum 132 = .ok (.aload_n 0, 1) := by decide +kernel
theorem dX9_sum_133 : decode cX9_sum 133 = .ok (.getfield 33, 3) := by decide +kernel
theorem dX9_sum_136 : decode cX9_sum 136 = .ok (.invokevirtual 286, 3) := by decide +kernel
theorem dX9_sum_139 : decode cX9_sum 139 = .ok (.ireturn, 1) := by decide +kernel
theorem dX9_sum_140 : decode cX9_sum 140 = .ok (.aload_n 0, 1) := by decide +kernel
theorem dX9_sum_141 : decode cX9_sum 141 = .ok (.invokevirtual 289, 3) := by decide +kernel
theorem dX9_sum_144 : decode cX9_sum 144 = .ok (.ireturn, 1) := by decide +kernel
theorem dX9_sum_145 : decode cX9_sum 145 = .ok (.aload_n 0, 1) := by decide +kernel
theorem dX9_sum_146 : decode cX9_sum 146 = .ok (.getfield 40, 3) := by decide +kernel
theorem dX9_sum_149 : decode cX9_sum 149 = .ok (.invokevirtual 283, 3) := by decide +kernel
theorem dX9_sum_152 : decode cX9_sum 152 = .ok (.ireturn, 1) := by decide +kernel
theorem dX9_reinsurer_0 : decode cX9_reinsurer 0 = .ok (.iload_n 1, 1) := by decide +kernel
theorem dX9_reinsurer_1 : decode cX9_reinsurer 1 = .ok (.invokestatic 159, 3) := by decide +kernel
theorem dX9_reinsurer_4 : decode cX9_reinsurer 4 = .ok (.ifCond .ne 13, 3) := by decide +kernel
theorem dX9_reinsurer_7 : decode cX9_reinsurer 7 = .ok (.new 107, 3) := by decide +kernel
theorem dX9_reinsurer_10 : decode cX9_reinsurer 10 = .ok (.dup, 1) := by decide +kernel
theorem dX9_reinsurer_11 : decode cX9_reinsurer 11 = .ok (.ldc 172, 2) := by decide +kernel
theorem dX9_reinsurer_13 : decode cX9_reinsurer 13 = .ok (.invokespecial 111, 3) := by decide +kernel
theorem dX9_reinsurer_16 : decode cX9_reinsurer 16 = .ok (.athrow, 1) := by decide +kernel
theorem dX9_reinsurer_17 : decode cX9_reinsurer 17 = .ok (.iload_n 2, 1) := by decide +kernel
theorem dX9_reinsurer_18 : decode cX9_reinsurer 18 = .ok (.iconst 0, 1) := by decide +kernel
theorem dX9_reinsurer_19 : decode cX9_reinsurer 19 = .ok (.iconst 2, 1) := by decide +kernel
theorem dX9_reinsurer_20 : decode cX9_reinsurer 20 = .ok (.invokestatic 80, 3) := by decide +kernel
theorem dX9_reinsurer_23 : decode cX9_reinsurer 23 = .ok (.ifCond .ne 13, 3) := by decide +kernel
theorem dX9_reinsurer_26 : decode cX9_reinsurer 26 = .ok (.new 84, 3) := by decide +kernel
theorem dX9_reinsurer_29 : decode cX9_reinsurer 29 = .ok (.dup, 1) := by decide +kernel
theorem dX9_reinsurer_30 : decode cX9_reinsurer 30 = .ok (.ldc 254, 2) := by decide +kernel
theorem dX9_reinsurer_32 : decode cX9_reinsurer 32 = .ok (.invokespecial 88, 3) := by decide +kernel
theorem dX9_reinsurer_35 : decode cX9_reinsurer 35 = .ok (.athrow, 1) := by decide +kernel
theorem dX9_reinsurer_36 : decode cX9_reinsurer 36 = .ok (.aload_n 0, 1) := by decide +kernel
theorem dX9_reinsurer_37 : decode cX9_reinsurer 37 = .ok (.invokevirtual 268, 3) := by decide +kernel
theorem dX9_reinsurer_40 : decode cX9_reinsurer 40 = .ok (.aload_n 0, 1) := by decide +kernel
theorem dX9_reinsurer_41 : decode cX9_reinsurer 41 = .ok (.getfield 40, 3) := by decide +kernel
theorem dX9_reinsurer_44 : decode cX9_reinsurer 44 = .ok (.invokevirtual 292, 3) := by decide +kernel
theorem dX9_reinsurer_47 : decode cX9_reinsurer 47 = .ok (.pop, 1) := by decide +kernel
theorem dX9_reinsurer_48 : decode cX9_reinsurer 48 = .ok (.aload_n 0, 1) := by decide +kernel
theorem dX9_reinsurer_49 : decode cX9_reinsurer 49 = .ok (.getfield 40, 3) := by decide +kernel
theorem dX9_reinsurer_52 : decode cX9_reinsurer 52 = .ok (.iload_n 1, 1) := by decide +kernel
theorem dX9_reinsurer_53 : decode cX9_reinsurer 53 = .ok (.iload_n 2, 1) := by decide +kernel
theorem dX9_reinsurer_54 : decode cX9_reinsurer 54 = .ok (.invokevirtual 295, 3) := by decide +kernel
theorem dX9_reinsurer_57 : decode cX9_reinsurer 57 = .ok (.ireturn, 1) := by decide +kernel
theorem dX9_rounds_0 : decode cX9_rounds 0 = .ok (.aload_n 0, 1) := by decide +kernel
theorem dX9_rounds_1 : decode cX9_rounds 1 = .ok (.invokevirtual 268, 3) := by decide +kernel
theorem dX9_rounds_4 : decode cX9_rounds 4 = .ok (.aload_n 0, 1) := by decide +kernel
theorem dX9_rounds_5 : decode cX9_rounds 5 = .ok (.getfield 40, 3) := by decide +kernel
theorem dX9_rounds_8 : decode cX9_rounds 8 = .ok (.invokevirtual 292, 3) := by decide +kernel
theorem dX9_rounds_11 : decode cX9_rounds 11 = .ok (.ireturn, 1) := by decide +kernel
theorem dX9_best_0 : decode cX9_best 0 = .ok (.iload_n 1, 1) := by decide +kernel
theorem dX9_best_1 : decode cX9_best 1 = .ok (.invokestatic 72, 3) := by decide +kernel
theorem dX9_best_4 : decode cX9_best 4 = .ok (.ifCond .ne 14, 3) := by decide +kernel
theorem dX9_best_7 : decode cX9_best 7 = .ok (.new 84, 3) := by decide +kernel
theorem dX9_best_10 : decode cX9_best 10 = .ok (.dup, 1) := by decide +kernel
theorem dX9_best_11 : decode cX9_best 11 = .ok (.ldc_w 298, 3) := by decide +kernel
theorem dX9_best_14 : decode cX9_best 14 = .ok (.invokespecial 88, 3) := by decide +kernel
theorem dX9_best_17 : decode cX9_best 17 = .ok (.athrow, 1) := by decide +kernel
theorem dX9_best_18 : decode cX9_best 18 = .ok (.aload_n 0, 1) := by decide +kernel
theorem dX9_best_19 : decode cX9_best 19 = .ok (.getfield 47, 3) := by decide +kernel
theorem dX9_best_22 : decode cX9_best 22 = .ok (.aload_n 0, 1) := by decide +kernel
theorem dX9_best_23 : decode cX9_best 23 = .ok (.getfield 12, 3) := by decide +kernel
theorem dX9_best_26 : decode cX9_best 26 = .ok (.iload_n 1, 1) := by decide +kernel
theorem dX9_best_27 : decode cX9_best 27 = .ok (.invokevirtual 300, 3) := by decide +kernel
theorem dX9_best_30 : decode cX9_best 30 = .ok (.aload_n 0, 1) := by decide +kernel
theorem dX9_best_31 : decode cX9_best 31 = .ok (.getfield 47, 3) := by decide +kernel
theorem dX9_best_34 : decode cX9_best 34 = .ok (.aload_n 0, 1) := by decide +kernel
theorem dX9_best_35 : decode cX9_best 35 = .ok (.getfield 26, 3) := by decide +kernel
theorem dX9_best_38 : decode cX9_best 38 = .ok (.iload_n 1, 1) := by decide +kernel
theorem dX9_best_39 : decode cX9_best 39 = .ok (.invokestatic 122, 3) := by decide +kernel
theorem dX9_best_42 : decode cX9_best 42 = .ok (.invokevirtual 304, 3) := by decide +kernel
theorem dX9_best_45 : decode cX9_best 45 = .ok (.ireturn, 1) := by decide +kernel
theorem dX9_bestAnew_0 : decode cX9_bestAnew 0 = .ok (.iload_n 1, 1) := by decide +kernel
theorem dX9_bestAnew_1 : decode cX9_bestAnew 1 = .ok (.invokestatic 72, 3) := by decide +kernel
theorem dX9_bestAnew_4 : decode cX9_bestAnew 4 = .ok (.ifCond .ne 14, 3) := by decide +kernel
theorem dX9_bestAnew_7 : decode cX9_bestAnew 7 = .ok (.new 84, 3) := by decide +kernel
theorem dX9_bestAnew_10 : decode cX9_bestAnew 10 = .ok (.dup, 1) := by decide +kernel
theorem dX9_bestAnew_11 : decode cX9_bestAnew 11 = .ok (.ldc_w 298, 3) := by decide +kernel
theorem dX9_bestAnew_14 : decode cX9_bestAnew 14 = .ok (.invokespecial 88, 3) := by decide +kernel
theorem dX9_bestAnew_17 : decode cX9_bestAnew 17 = .ok (.athrow, 1) := by decide +kernel
theorem dX9_bestAnew_18 : decode cX9_bestAnew 18 = .ok (.aload_n 0, 1) := by decide +kernel
theorem dX9_bestAnew_19 : decode cX9_bestAnew 19 = .ok (.getfield 47, 3) := by decide +kernel
theorem dX9_bestAnew_22 : decode cX9_bestAnew 22 = .ok (.aload_n 0, 1) := by decide +kernel
theorem dX9_bestAnew_23 : decode cX9_bestAnew 23 = .ok (.getfield 12, 3) := by decide +kernel
theorem dX9_bestAnew_26 : decode cX9_bestAnew 26 = .ok (.iload_n 1, 1) := by decide +kernel
theorem dX9_bestAnew_27 : decode cX9_bestAnew 27 = .ok (.invokevirtual 300, 3) := by decide +kernel
theorem dX9_bestAnew_30 : decode cX9_bestAnew 30 = .ok (.aload_n 0, 1) := by decide +kernel
theorem dX9_bestAnew_31 : decode cX9_bestAnew 31 = .ok (.getfield 47, 3) := by decide +kernel
theorem dX9_bestAnew_34 : decode cX9_bestAnew 34 = .ok (.invokevirtual 308, 3) := by decide +kernel
theorem dX9_bestAnew_37 : decode cX9_bestAnew 37 = .ok (.bipush 7, 2) := by decide +kernel
theorem dX9_bestAnew_39 : decode cX9_bestAnew 39 = .ok (.if_icmp .le 14, 3) := by decide +kernel
theorem dX9_bestAnew_42 : decode cX9_bestAnew 42 = .ok (.new 95, 3) := by decide +kernel
theorem dX9_bestAnew_45 : decode cX9_bestAnew 45 = .ok (.dup, 1) := by decide +kernel
theorem dX9_bestAnew_46 : decode cX9_bestAnew 46 = .ok (.ldc_w 311, 3) := by decide +kernel
theorem dX9_bestAnew_49 : decode cX9_bestAnew 49 = .ok (.invokespecial 99, 3) := by decide +kernel
theorem dX9_bestAnew_52 : decode cX9_bestAnew 52 = .ok (.athrow, 1) := by decide +kernel
theorem dX9_bestAnew_53 : decode cX9_bestAnew 53 = .ok (.aload_n 0, 1) := by decide +kernel
theorem dX9_bestAnew_54 : decode cX9_bestAnew 54 = .ok (.getfield 47, 3) := by decide +kernel
theorem dX9_bestAnew_57 : decode cX9_bestAnew 57 = .ok (.aload_n 0, 1) := by decide +kernel
theorem dX9_bestAnew_58 : decode cX9_bestAnew 58 = .ok (.getfield 26, 3) := by decide +kernel
theorem dX9_bestAnew_61 : decode cX9_bestAnew 61 = .ok (.iload_n 1, 1) := by decide +kernel
theorem dX9_bestAnew_62 : decode cX9_bestAnew 62 = .ok (.invokestatic 122, 3) := by decide +kernel
theorem dX9_bestAnew_65 : decode cX9_bestAnew 65 = .ok (.invokevirtual 313, 3) := by decide +kernel
theorem dX9_bestAnew_68 : decode cX9_bestAnew 68 = .ok (.ireturn, 1) := by decide +kernel
theorem dX9_ofBond_0 : decode cX9_ofBond 0 = .ok (.aload_n 0, 1) := by decide +kernel
theorem dX9_ofBond_1 : decode cX9_ofBond 1 = .ok (.getfield 61, 3) := by decide +kernel
theorem dX9_ofBond_4 : decode cX9_ofBond 4 = .ok (.iload_n 1, 1) := by decide +kernel
theorem dX9_ofBond_5 : decode cX9_ofBond 5 = .ok (.invokevirtual 221, 3) := by decide +kernel
theorem dX9_ofBond_8 : decode cX9_ofBond 8 = .ok (.ifCond .ne 13, 3) := by decide +kernel
theorem dX9_ofBond_11 : decode cX9_ofBond 11 = .ok (.new 107, 3) := by decide +kernel
theorem dX9_ofBond_14 : decode cX9_ofBond 14 = .ok (.dup, 1) := by decide +kernel
theorem dX9_ofBond_15 : decode cX9_ofBond 15 = .ok (.ldc 222, 2) := by decide +kernel
theorem dX9_ofBond_17 : decode cX9_ofBond 17 = .ok (.invokespecial 111, 3) := by decide +kernel
theorem dX9_ofBond_20 : decode cX9_ofBond 20 = .ok (.athrow, 1) := by decide +kernel
theorem dX9_ofBond_21 : decode cX9_ofBond 21 = .ok (.iload_n 2, 1) := by decide +kernel
theorem dX9_ofBond_22 : decode cX9_ofBond 22 = .ok (.iconst 0, 1) := by decide +kernel
theorem dX9_ofBond_23 : decode cX9_ofBond 23 = .ok (.iconst 5, 1) := by decide +kernel
theorem dX9_ofBond_24 : decode cX9_ofBond 24 = .ok (.invokestatic 80, 3) := by decide +kernel
theorem dX9_ofBond_27 : decode cX9_ofBond 27 = .ok (.ifCond .ne 13, 3) := by decide +kernel
theorem dX9_ofBond_30 : decode cX9_ofBond 30 = .ok (.new 84, 3) := by decide +kernel
theorem dX9_ofBond_33 : decode cX9_ofBond 33 = .ok (.dup, 1) := by decide +kernel
theorem dX9_ofBond_34 : decode cX9_ofBond 34 = .ok (.ldc 254, 2) := by decide +kernel
theorem dX9_ofBond_36 : decode cX9_ofBond 36 = .ok (.invokespecial 88, 3) := by decide +kernel
theorem dX9_ofBond_39 : decode cX9_ofBond 39 = .ok (.athrow, 1) := by decide +kernel
theorem dX9_ofBond_40 : decode cX9_ofBond 40 = .ok (.aload_n 0, 1) := by decide +kernel
theorem dX9_ofBond_41 : decode cX9_ofBond 41 = .ok (.getfield 61, 3) := by decide +kernel
theorem dX9_ofBond_44 : decode cX9_ofBond 44 = .ok (.iload_n 1, 1) := by decide +kernel
theorem dX9_ofBond_45 : decode cX9_ofBond 45 = .ok (.aload_n 0, 1) := by decide +kernel
theorem dX9_ofBond_46 : decode cX9_ofBond 46 = .ok (.getfield 212, 3) := by decide +kernel
theorem dX9_ofBond_49 : decode cX9_ofBond 49 = .ok (.invokevirtual 229, 3) := by decide +kernel
theorem dX9_ofBond_52 : decode cX9_ofBond 52 = .ok (.istore_n 3, 1) := by decide +kernel
theorem dX9_ofBond_53 : decode cX9_ofBond 53 = .ok (.aload_n 0, 1) := by decide +kernel
theorem dX9_ofBond_54 : decode cX9_ofBond 54 = .ok (.getfield 61, 3) := by decide +kernel
theorem dX9_ofBond_57 : decode cX9_ofBond 57 = .ok (.iload_n 1, 1) := by decide +kernel
theorem dX9_ofBond_58 : decode cX9_ofBond 58 = .ok (.aload_n 0, 1) := by decide +kernel
theorem dX9_ofBond_59 : decode cX9_ofBond 59 = .ok (.getfield 54, 3) := by decide +kernel
theorem dX9_ofBond_62 : decode cX9_ofBond 62 = .ok (.invokevirtual 316, 3) := by decide +kernel
theorem dX9_ofBond_65 : decode cX9_ofBond 65 = .ok (.istore 4, 2) := by decide +kernel
theorem dX9_ofBond_67 : decode cX9_ofBond 67 = .ok (.aload_n 0, 1) := by decide +kernel
theorem dX9_ofBond_68 : decode cX9_ofBond 68 = .ok (.getfield 61, 3) := by decide +kernel
theorem dX9_ofBond_71 : decode cX9_ofBond 71 = .ok (.iload_n 1, 1) := by decide +kernel
theorem dX9_ofBond_72 : decode cX9_ofBond 72 = .ok (.iload 4, 2) := by decide +kernel
theorem dX9_ofBond_74 : decode cX9_ofBond 74 = .ok (.invokevirtual 320, 3) := by decide +kernel
theorem dX9_ofBond_77 : decode cX9_ofBond 77 = .ok (.istore 5, 2) := by decide +kernel
theorem dX9_ofBond_79 : decode cX9_ofBond 79 = .ok (.iload_n 2, 1) := by decide +kernel
theorem dX9_ofBond_80 : decode cX9_ofBond 80 = .ok (.tableswitch 83 0 4 #[36, 39, 42, 52, 63], 36) := by decide +kernel
theorem dX9_ofBond_116 : decode cX9_ofBond 116 = .ok (.iload 4, 2) := by decide +kernel
theorem dX9_ofBond_118 : decode cX9_ofBond 118 = .ok (.ireturn, 1) := by decide +kernel
theorem dX9_ofBond_119 : decode cX9_ofBond 119 = .ok (.iload 5, 2) := by decide +kernel
theorem dX9_ofBond_121 : decode cX9_ofBond 121 = .ok (.ireturn, 1) := by decide +kernel
theorem dX9_ofBond_122 : decode cX9_ofBond 122 = .ok (.iload_n 3, 1) := by decide +kernel
theorem dX9_ofBond_123 : decode cX9_ofBond 123 = .ok (.ifCond .eq 7, 3) := by decide +kernel
theorem dX9_ofBond_126 : decode cX9_ofBond 126 = .ok (.iconst 1, 1) := by decide +kernel
theorem dX9_ofBond_127 : decode cX9_ofBond 127 = .ok (.goto 4, 3) := by decide +kernel
theorem dX9_ofBond_130 : decode cX9_ofBond 130 = .ok (.iconst 0, 1) := by decide +kernel
theorem dX9_ofBond_131 : decode cX9_ofBond 131 = .ok (.ireturn, 1) := by decide +kernel
theorem dX9_ofBond_132 : decode cX9_ofBond 132 = .ok (.iload_n 3, 1) := by decide +kernel
theorem dX9_ofBond_133 : decode cX9_ofBond 133 = .ok (.ifCond .eq 7, 3) := by decide +kernel
theorem dX9_ofBond_136 : decode cX9_ofBond 136 = .ok (.iconst 0, 1) := by decide +kernel
theorem dX9_ofBond_137 : decode cX9_ofBond 137 = .ok (.goto 5, 3) := by decide +kernel
theorem dX9_ofBond_140 : decode cX9_ofBond 140 = .ok (.iload 5, 2) := by decide +kernel
theorem dX9_ofBond_142 : decode cX9_ofBond 142 = .ok (.ireturn, 1) := by decide +kernel
theorem dX9_ofBond_143 : decode cX9_ofBond 143 = .ok (.iload_n 3, 1) := by decide +kernel
theorem dX9_ofBond_144 : decode cX9_ofBond 144 = .ok (.ifCond .eq 7, 3) := by decide +kernel
theorem dX9_ofBond_147 : decode cX9_ofBond 147 = .ok (.iconst 0, 1) := by decide +kernel
theorem dX9_ofBond_148 : decode cX9_ofBond 148 = .ok (.goto 14, 3) := by decide +kernel
theorem dX9_ofBond_151 : decode cX9_ofBond 151 = .ok (.aload_n 0, 1) := by decide +kernel
theorem dX9_ofBond_152 : decode cX9_ofBond 152 = .ok (.getfield 61, 3) := by decide +kernel
theorem dX9_ofBond_155 : decode cX9_ofBond 155 = .ok (.iload_n 1, 1) := by decide +kernel
theorem dX9_ofBond_156 : decode cX9_ofBond 156 = .ok (.invokevirtual 323, 3) := by decide +kernel
theorem dX9_ofBond_159 : decode cX9_ofBond 159 = .ok (.iload 5, 2) := by decide +kernel
theorem dX9_ofBond_161 : decode cX9_ofBond 161 = .ok (.isub, 1) := by decide +kernel
theorem dX9_ofBond_162 : decode cX9_ofBond 162 = .ok (.ireturn, 1) := by decide +kernel
theorem dX9_ofBond_163 : decode cX9_ofBond 163 = .ok (.aload_n 0, 1) := by decide +kernel
theorem dX9_ofBond_164 : decode cX9_ofBond 164 = .ok (.getfield 61, 3) := by decide +kernel
theorem dX9_ofBond_167 : decode cX9_ofBond 167 = .ok (.iload_n 1, 1) := by decide +kernel
theorem dX9_ofBond_168 : decode cX9_ofBond 168 = .ok (.aload_n 0, 1) := by decide +kernel
theorem dX9_ofBond_169 : decode cX9_ofBond 169 = .ok (.getfield 54, 3) := by decide +kernel
theorem dX9_ofBond_172 : decode cX9_ofBond 172 = .ok (.invokevirtual 326, 3) := by decide +kernel
theorem dX9_ofBond_175 : decode cX9_ofBond 175 = .ok (.ireturn, 1) := by decide +kernel
theorem dX9_basis_0 : decode cX9_basis 0 = .ok (.aload_n 0, 1) := by decide +kernel
theorem dX9_basis_1 : decode cX9_basis 1 = .ok (.invokevirtual 268, 3) := by decide +kernel
theorem dX9_basis_4 : decode cX9_basis 4 = .ok (.aload_n 0, 1) := by decide +kernel
theorem dX9_basis_5 : decode cX9_basis 5 = .ok (.getfield 61, 3) := by decide +kernel
theorem dX9_basis_8 : decode cX9_basis 8 = .ok (.aload_n 0, 1) := by decide +kernel
theorem dX9_basis_9 : decode cX9_basis 9 = .ok (.getfield 54, 3) := by decide +kernel
theorem dX9_basis_12 : decode cX9_basis 12 = .ok (.invokevirtual 329, 3) := by decide +kernel
theorem dX9_basis_15 : decode cX9_basis 15 = .ok (.aload_n 0, 1) := by decide +kernel
theorem dX9_basis_16 : decode cX9_basis 16 = .ok (.invokevirtual 289, 3) := by decide +kernel
theorem dX9_basis_19 : decode cX9_basis 19 = .ok (.isub, 1) := by decide +kernel
theorem dX9_basis_20 : decode cX9_basis 20 = .ok (.ireturn, 1) := by decide +kernel
theorem dX9_price_0 : decode cX9_price 0 = .ok (.aload_n 0, 1) := by decide +kernel
theorem dX9_price_1 : decode cX9_price 1 = .ok (.getfield 26, 3) := by decide +kernel
theorem dX9_price_4 : decode cX9_price 4 = .ok (.iload_n 1, 1) := by decide +kernel
theorem dX9_price_5 : decode cX9_price 5 = .ok (.invokevirtual 158, 3) := by decide +kernel
theorem dX9_price_8 : decode cX9_price 8 = .ok (.ifCond .eq 10, 3) := by decide +kernel
theorem dX9_price_11 : decode cX9_price 11 = .ok (.iload_n 2, 1) := by decide +kernel
theorem dX9_price_12 : decode cX9_price 12 = .ok (.invokestatic 239, 3) := by decide +kernel
theorem dX9_price_15 : decode cX9_price 15 = .ok (.ifCond .ne 14, 3) := by decide +kernel
theorem dX9_price_18 : decode cX9_price 18 = .ok (.new 107, 3) := by decide +kernel
theorem dX9_price_21 : decode cX9_price 21 = .ok (.dup, 1) := by decide +kernel
theorem dX9_price_22 : decode cX9_price 22 = .ok (.ldc_w 333, 3) := by decide +kernel
theorem dX9_price_25 : decode cX9_price 25 = .ok (.invokespecial 111, 3) := by decide +kernel
theorem dX9_price_28 : decode cX9_price 28 = .ok (.athrow, 1) := by decide +kernel
theorem dX9_price_29 : decode cX9_price 29 = .ok (.aload_n 0, 1) := by decide +kernel
theorem dX9_price_30 : decode cX9_price 30 = .ok (.getfield 68, 3) := by decide +kernel
theorem dX9_price_33 : decode cX9_price 33 = .ok (.iload_n 2, 1) := by decide +kernel
theorem dX9_price_34 : decode cX9_price 34 = .ok (.invokevirtual 335, 3) := by decide +kernel
theorem dX9_price_37 : decode cX9_price 37 = .ok (.istore_n 3, 1) := by decide +kernel
theorem dX9_price_38 : decode cX9_price 38 = .ok (.iload_n 3, 1) := by decide +kernel
theorem dX9_price_39 : decode cX9_price 39 = .ok (.iconst 1, 1) := by decide +kernel
theorem dX9_price_40 : decode cX9_price 40 = .ok (.if_icmp .ge 14, 3) := by decide +kernel
theorem dX9_price_43 : decode cX9_price 43 = .ok (.new 95, 3) := by decide +kernel
theorem dX9_price_46 : decode cX9_price 46 = .ok (.dup, 1) := by decide +kernel
theorem dX9_price_47 : decode cX9_price 47 = .ok (.ldc_w 338, 3) := by decide +kernel
theorem dX9_price_50 : decode cX9_price 50 = .ok (.invokespecial 99, 3) := by decide +kernel
theorem dX9_price_53 : decode cX9_price 53 = .ok (.athrow, 1) := by decide +kernel
theorem dX9_price_54 : decode cX9_price 54 = .ok (.ldc2_w 340, 3) := by decide +kernel
theorem dX9_price_57 : decode cX9_price 57 = .ok (.aload_n 0, 1) := by decide +kernel
theorem dX9_price_58 : decode cX9_price 58 = .ok (.getfield 68, 3) := by decide +kernel
theorem dX9_price_61 : decode cX9_price 61 = .ok (.iload_n 2, 1) := by decide +kernel
theorem dX9_price_62 : decode cX9_price 62 = .ok (.aload_n 0, 1) := by decide +kernel
theorem dX9_price_63 : decode cX9_price 63 = .ok (.getfield 26, 3) := by decide +kernel
theorem dX9_price_66 : decode cX9_price 66 = .ok (.iload_n 1, 1) := by decide +kernel
theorem dX9_price_67 : decode cX9_price 67 = .ok (.invokevirtual 342, 3) := by decide +kernel
theorem dX9_price_70 : decode cX9_price 70 = .ok (.lmul, 1) := by decide +kernel
theorem dX9_price_71 : decode cX9_price 71 = .ok (.iload_n 3, 1) := by decide +kernel
theorem dX9_price_72 : decode cX9_price 72 = .ok (.i2l, 1) := by decide +kernel
theorem dX9_price_73 : decode cX9_price 73 = .ok (.ldiv, 1) := by decide +kernel
theorem dX9_price_74 : decode cX9_price 74 = .ok (.lreturn, 1) := by decide +kernel
theorem dX9_tail_0 : decode cX9_tail 0 = .ok (.aload_n 0, 1) := by decide +kernel
theorem dX9_tail_1 : decode cX9_tail 1 = .ok (.getfield 26, 3) := by decide +kernel
theorem dX9_tail_4 : decode cX9_tail 4 = .ok (.iload_n 1, 1) := by decide +kernel
theorem dX9_tail_5 : decode cX9_tail 5 = .ok (.invokevirtual 158, 3) := by decide +kernel
theorem dX9_tail_8 : decode cX9_tail 8 = .ok (.ifCond .eq 10, 3) := by decide +kernel
theorem dX9_tail_11 : decode cX9_tail 11 = .ok (.iload_n 2, 1) := by decide +kernel
theorem dX9_tail_12 : decode cX9_tail 12 = .ok (.invokestatic 239, 3) := by decide +kernel
theorem dX9_tail_15 : decode cX9_tail 15 = .ok (.ifCond .ne 14, 3) := by decide +kernel
theorem dX9_tail_18 : decode cX9_tail 18 = .ok (.new 107, 3) := by decide +kernel
theorem dX9_tail_21 : decode cX9_tail 21 = .ok (.dup, 1) := by decide +kernel
theorem dX9_tail_22 : decode cX9_tail 22 = .ok (.ldc_w 333, 3) := by decide +kernel
theorem dX9_tail_25 : decode cX9_tail 25 = .ok (.invokespecial 111, 3) := by decide +kernel
theorem dX9_tail_28 : decode cX9_tail 28 = .ok (.athrow, 1) := by decide +kernel
theorem dX9_tail_29 : decode cX9_tail 29 = .ok (.iload_n 3, 1) := by decide +kernel
theorem dX9_tail_30 : decode cX9_tail 30 = .ok (.iconst 0, 1) := by decide +kernel
theorem dX9_tail_31 : decode cX9_tail 31 = .ok (.bipush 99, 2) := by decide +kernel
theorem dX9_tail_33 : decode cX9_tail 33 = .ok (.invokestatic 80, 3) := by decide +kernel
theorem dX9_tail_36 : decode cX9_tail 36 = .ok (.ifCond .ne 13, 3) := by decide +kernel
theorem dX9_tail_39 : decode cX9_tail 39 = .ok (.new 84, 3) := by decide +kernel
theorem dX9_tail_42 : decode cX9_tail 42 = .ok (.dup, 1) := by decide +kernel
theorem dX9_tail_43 : decode cX9_tail 43 = .ok (.ldc 144, 2) := by decide +kernel
theorem dX9_tail_45 : decode cX9_tail 45 = .ok (.invokespecial 88, 3) := by decide +kernel
theorem dX9_tail_48 : decode cX9_tail 48 = .ok (.athrow, 1) := by decide +kernel
theorem dX9_tail_49 : decode cX9_tail 49 = .ok (.aload_n 0, 1) := by decide +kernel
theorem dX9_tail_50 : decode cX9_tail 50 = .ok (.getfield 68, 3) := by decide +kernel
theorem dX9_tail_53 : decode cX9_tail 53 = .ok (.iload_n 2, 1) := by decide +kernel
theorem dX9_tail_54 : decode cX9_tail 54 = .ok (.invokevirtual 346, 3) := by decide +kernel
theorem dX9_tail_57 : decode cX9_tail 57 = .ok (.ifCond .eq 14, 3) := by decide +kernel
theorem dX9_tail_60 : decode cX9_tail 60 = .ok (.new 95, 3) := by decide +kernel
theorem dX9_tail_63 : decode cX9_tail 63 = .ok (.dup, 1) := by decide +kernel
theorem dX9_tail_64 : decode cX9_tail 64 = .ok (.ldc_w 338, 3) := by decide +kernel
theorem dX9_tail_67 : decode cX9_tail 67 = .ok (.invokespecial 99, 3) := by decide +kernel
theorem dX9_tail_70 : decode cX9_tail 70 = .ok (.athrow, 1) := by decide +kernel
theorem dX9_tail_71 : decode cX9_tail 71 = .ok (.aload_n 0, 1) := by decide +kernel
theorem dX9_tail_72 : decode cX9_tail 72 = .ok (.getfield 68, 3) := by decide +kernel
theorem dX9_tail_75 : decode cX9_tail 75 = .ok (.iload_n 2, 1) := by decide +kernel
theorem dX9_tail_76 : decode cX9_tail 76 = .ok (.aload_n 0, 1) := by decide +kernel
theorem dX9_tail_77 : decode cX9_tail 77 = .ok (.getfield 26, 3) := by decide +kernel
theorem dX9_tail_80 : decode cX9_tail 80 = .ok (.iload_n 1, 1) := by decide +kernel
theorem dX9_tail_81 : decode cX9_tail 81 = .ok (.iload_n 3, 1) := by decide +kernel
theorem dX9_tail_82 : decode cX9_tail 82 = .ok (.invokevirtual 348, 3) := by decide +kernel
theorem dX9_tail_85 : decode cX9_tail 85 = .ok (.ireturn, 1) := by decide +kernel
theorem dX9_dearest_0 : decode cX9_dearest 0 = .ok (.aload_n 0, 1) := by decide +kernel
theorem dX9_dearest_1 : decode cX9_dearest 1 = .ok (.getfield 26, 3) := by decide +kernel
theorem dX9_dearest_4 : decode cX9_dearest 4 = .ok (.iload_n 1, 1) := by decide +kernel
theorem dX9_dearest_5 : decode cX9_dearest 5 = .ok (.invokevirtual 158, 3) := by decide +kernel
theorem dX9_dearest_8 : decode cX9_dearest 8 = .ok (.ifCond .ne 14, 3) := by decide +kernel
theorem dX9_dearest_11 : decode cX9_dearest 11 = .ok (.new 107, 3) := by decide +kernel
theorem dX9_dearest_14 : decode cX9_dearest 14 = .ok (.dup, 1) := by decide +kernel
theorem dX9_dearest_15 : decode cX9_dearest 15 = .ok (.ldc_w 352, 3) := by decide +kernel
theorem dX9_dearest_18 : decode cX9_dearest 18 = .ok (.invokespecial 111, 3) := by decide +kernel
theorem dX9_dearest_21 : decode cX9_dearest 21 = .ok (.athrow, 1) := by decide +kernel
theorem dX9_dearest_22 : decode cX9_dearest 22 = .ok (.aload_n 0, 1) := by decide +kernel
theorem dX9_dearest_23 : decode cX9_dearest 23 = .ok (.getfield 68, 3) := by decide +kernel
theorem dX9_dearest_26 : decode cX9_dearest 26 = .ok (.aload_n 0, 1) := by decide +kernel
theorem dX9_dearest_27 : decode cX9_dearest 27 = .ok (.getfield 26, 3) := by decide +kernel
theorem dX9_dearest_30 : decode cX9_dearest 30 = .ok (.iload_n 1, 1) := by decide +kernel
theorem dX9_dearest_31 : decode cX9_dearest 31 = .ok (.invokevirtual 354, 3) := by decide +kernel
theorem dX9_dearest_34 : decode cX9_dearest 34 = .ok (.istore_n 3, 1) := by decide +kernel
theorem dX9_dearest_35 : decode cX9_dearest 35 = .ok (.iload_n 3, 1) := by decide +kernel
theorem dX9_dearest_36 : decode cX9_dearest 36 = .ok (.iconst (-1), 1) := by decide +kernel
theorem dX9_dearest_37 : decode cX9_dearest 37 = .ok (.if_icmp .eq 7, 3) := by decide +kernel
theorem dX9_dearest_40 : decode cX9_dearest 40 = .ok (.iload_n 2, 1) := by decide +kernel
theorem dX9_dearest_41 : decode cX9_dearest 41 = .ok (.ifCond .ne 6, 3) := by decide +kernel
theorem dX9_dearest_44 : decode cX9_dearest 44 = .ok (.iload_n 3, 1) := by decide +kernel
theorem dX9_dearest_45 : decode cX9_dearest 45 = .ok (.i2l, 1) := by decide +kernel
theorem dX9_dearest_46 : decode cX9_dearest 46 = .ok (.lreturn, 1) := by decide +kernel
theorem dX9_dearest_47 : decode cX9_dearest 47 = .ok (.aload_n 0, 1) := by decide +kernel
theorem dX9_dearest_48 : decode cX9_dearest 48 = .ok (.getfield 68, 3) := by decide +kernel
theorem dX9_dearest_51 : decode cX9_dearest 51 = .ok (.iload_n 3, 1) := by decide +kernel
theorem dX9_dearest_52 : decode cX9_dearest 52 = .ok (.aload_n 0, 1) := by decide +kernel
theorem dX9_dearest_53 : decode cX9_dearest 53 = .ok (.getfield 26, 3) := by decide +kernel
theorem dX9_dearest_56 : decode cX9_dearest 56 = .ok (.iload_n 1, 1) := by decide +kernel
theorem dX9_dearest_57 : decode cX9_dearest 57 = .ok (.invokevirtual 357, 3) := by decide +kernel
theorem dX9_dearest_60 : decode cX9_dearest 60 = .ok (.invokestatic 361, 3) := by decide +kernel
theorem dX9_dearest_63 : decode cX9_dearest 63 = .ok (.lreturn, 1) := by decide +kernel
theorem dX9_hour_0 : decode cX9_hour 0 = .ok (.aload_n 0, 1) := by decide +kernel
theorem dX9_hour_1 : decode cX9_hour 1 = .ok (.getfield 212, 3) := by decide +kernel
theorem dX9_hour_4 : decode cX9_hour 4 = .ok (.ireturn, 1) := by decide +kernel
theorem dX9_settleAll_0 : decode cX9_settleAll 0 = .ok (.aload_n 0, 1) := by decide +kernel
theorem dX9_settleAll_1 : decode cX9_settleAll 1 = .ok (.getfield 33, 3) := by decide +kernel
theorem dX9_settleAll_4 : decode cX9_settleAll 4 = .ok (.aload_n 0, 1) := by decide +kernel
theorem dX9_settleAll_5 : decode cX9_settleAll 5 = .ok (.getfield 12, 3) := by decide +kernel
theorem dX9_settleAll_8 : decode cX9_settleAll 8 = .ok (.aload_n 0, 1) := by decide +kernel
theorem dX9_settleAll_9 : decode cX9_settleAll 9 = .ok (.getfield 19, 3) := by decide +kernel
theorem dX9_settleAll_12 : decode cX9_settleAll 12 = .ok (.aload_n 0, 1) := by decide +kernel
theorem dX9_settleAll_13 : decode cX9_settleAll 13 = .ok (.getfield 26, 3) := by decide +kernel
theorem dX9_settleAll_16 : decode cX9_settleAll 16 = .ok (.invokevirtual 256, 3) := by decide +kernel
theorem dX9_settleAll_19 : decode cX9_settleAll 19 = .ok (.aload_n 0, 1) := by decide +kernel
theorem dX9_settleAll_20 : decode cX9_settleAll 20 = .ok (.getfield 40, 3) := by decide +kernel
theorem dX9_settleAll_23 : decode cX9_settleAll 23 = .ok (.aload_n 0, 1) := by decide +kernel
theorem dX9_settleAll_24 : decode cX9_settleAll 24 = .ok (.getfield 33, 3) := by decide +kernel
theorem dX9_settleAll_27 : decode cX9_settleAll 27 = .ok (.invokevirtual 365, 3) := by decide +kernel
theorem dX9_settleAll_30 : decode cX9_settleAll 30 = .ok (.return_, 1) := by decide +kernel
theorem dX9_keptOfAll_0 : decode cX9_keptOfAll 0 = .ok (.aload_n 0, 1) := by decide +kernel
theorem dX9_keptOfAll_1 : decode cX9_keptOfAll 1 = .ok (.getfield 12, 3) := by decide +kernel
theorem dX9_keptOfAll_4 : decode cX9_keptOfAll 4 = .ok (.invokevirtual 271, 3) := by decide +kernel
theorem dX9_keptOfAll_7 : decode cX9_keptOfAll 7 = .ok (.aload_n 0, 1) := by decide +kernel
theorem dX9_keptOfAll_8 : decode cX9_keptOfAll 8 = .ok (.getfield 40, 3) := by decide +kernel
theorem dX9_keptOfAll_11 : decode cX9_keptOfAll 11 = .ok (.invokevirtual 283, 3) := by decide +kernel
theorem dX9_keptOfAll_14 : decode cX9_keptOfAll 14 = .ok (.isub, 1) := by decide +kernel
theorem dX9_keptOfAll_15 : decode cX9_keptOfAll 15 = .ok (.aload_n 0, 1) := by decide +kernel
theorem dX9_keptOfAll_16 : decode cX9_keptOfAll 16 = .ok (.getfield 33, 3) := by decide +kernel
theorem dX9_keptOfAll_19 : decode cX9_keptOfAll 19 = .ok (.invokevirtual 286, 3) := by decide +kernel
theorem dX9_keptOfAll_22 : decode cX9_keptOfAll 22 = .ok (.iadd, 1) := by decide +kernel
theorem dX9_keptOfAll_23 : decode cX9_keptOfAll 23 = .ok (.ireturn, 1) := by decide +kernel
theorem dX9_isIn_0 : decode cX9_isIn 0 = .ok (.iload_n 0, 1) := by decide +kernel
theorem dX9_isIn_1 : decode cX9_isIn 1 = .ok (.iload_n 1, 1) := by decide +kernel
theorem dX9_isIn_2 : decode cX9_isIn 2 = .ok (.if_icmp .lt 12, 3) := by decide +kernel
theorem dX9_isIn_5 : decode cX9_isIn 5 = .ok (.iload_n 0, 1) := by decide +kernel
theorem dX9_isIn_6 : decode cX9_isIn 6 = .ok (.iload_n 2, 1) := by decide +kernel
theorem dX9_isIn_7 : decode cX9_isIn 7 = .ok (.if_icmp .gt 7, 3) := by decide +kernel
theorem dX9_isIn_10 : decode cX9_isIn 10 = .ok (.iconst 1, 1) := by decide +kernel
theorem dX9_isIn_11 : decode cX9_isIn 11 = .ok (.goto 4, 3) := by decide +kernel
theorem dX9_isIn_14 : decode cX9_isIn 14 = .ok (.iconst 0, 1) := by decide +kernel
theorem dX9_isIn_15 : decode cX9_isIn 15 = .ok (.ireturn, 1) := by decide +kernel
theorem dX9_isPeril_0 : decode cX9_isPeril 0 = .ok (.iload_n 0, 1) := by decide +kernel
theorem dX9_isPeril_1 : decode cX9_isPeril 1 = .ok (.iconst 0, 1) := by decide +kernel
theorem dX9_isPeril_2 : decode cX9_isPeril 2 = .ok (.iconst 2, 1) := by decide +kernel
theorem dX9_isPeril_3 : decode cX9_isPeril 3 = .ok (.invokestatic 80, 3) := by decide +kernel
theorem dX9_isPeril_6 : decode cX9_isPeril 6 = .ok (.ireturn, 1) := by decide +kernel
theorem dX9_isHour_0 : decode cX9_isHour 0 = .ok (.iload_n 0, 1) := by decide +kernel
theorem dX9_isHour_1 : decode cX9_isHour 1 = .ok (.iconst 0, 1) := by decide +kernel
theorem dX9_isHour_2 : decode cX9_isHour 2 = .ok (.sipush 2199, 3) := by decide +kernel
theorem dX9_isHour_5 : decode cX9_isHour 5 = .ok (.invokestatic 80, 3) := by decide +kernel
theorem dX9_isHour_8 : decode cX9_isHour 8 = .ok (.ireturn, 1) := by decide +kernel
theorem dX9_isSpan_0 : decode cX9_isSpan 0 = .ok (.iload_n 0, 1) := by decide +kernel
theorem dX9_isSpan_1 : decode cX9_isSpan 1 = .ok (.invokestatic 76, 3) := by decide +kernel
theorem dX9_isSpan_4 : decode cX9_isSpan 4 = .ok (.ifCond .eq 19, 3) := by decide +kernel
theorem dX9_isSpan_7 : decode cX9_isSpan 7 = .ok (.iload_n 1, 1) := by decide +kernel
theorem dX9_isSpan_8 : decode cX9_isSpan 8 = .ok (.invokestatic 76, 3) := by decide +kernel
theorem dX9_isSpan_11 : decode cX9_isSpan 11 = .ok (.ifCond .eq 12, 3) := by decide +kernel
theorem dX9_isSpan_14 : decode cX9_isSpan 14 = .ok (.iload_n 0, 1) := by decide +kernel
theorem dX9_isSpan_15 : decode cX9_isSpan 15 = .ok (.iload_n 1, 1) := by decide +kernel
theorem dX9_isSpan_16 : decode cX9_isSpan 16 = .ok (.if_icmp .gt 7, 3) := by decide +kernel
theorem dX9_isSpan_19 : decode cX9_isSpan 19 = .ok (.iconst 1, 1) := by decide +kernel
theorem dX9_isSpan_20 : decode cX9_isSpan 20 = .ok (.goto 4, 3) := by decide +kernel
theorem dX9_isSpan_23 : decode cX9_isSpan 23 = .ok (.iconst 0, 1) := by decide +kernel
theorem dX9_isSpan_24 : decode cX9_isSpan 24 = .ok (.ireturn, 1) := by decide +kernel
theorem dX9_isReinsurer_0 : decode cX9_isReinsurer 0 = .ok (.iload_n 0, 1) := by decide +kernel
theorem dX9_isReinsurer_1 : decode cX9_isReinsurer 1 = .ok (.iconst 0, 1) := by decide +kernel
theorem dX9_isReinsurer_2 : decode cX9_isReinsurer 2 = .ok (.iconst 5, 1) := by decide +kernel
theorem dX9_isReinsurer_3 : decode cX9_isReinsurer 3 = .ok (.invokestatic 80, 3) := by decide +kernel
theorem dX9_isReinsurer_6 : decode cX9_isReinsurer 6 = .ok (.ireturn, 1) := by decide +kernel
theorem dX9_isModel_0 : decode cX9_isModel 0 = .ok (.iload_n 0, 1) := by decide +kernel
theorem dX9_isModel_1 : decode cX9_isModel 1 = .ok (.iconst 0, 1) := by decide +kernel
theorem dX9_isModel_2 : decode cX9_isModel 2 = .ok (.iconst 2, 1) := by decide +kernel
theorem dX9_isModel_3 : decode cX9_isModel 3 = .ok (.invokestatic 80, 3) := by decide +kernel
theorem dX9_isModel_6 : decode cX9_isModel 6 = .ok (.ireturn, 1) := by decide +kernel
theorem dX9_clauseOf_0 : decode cX9_clauseOf 0 = .ok (.iload_n 0, 1) := by decide +kernel
theorem dX9_clauseOf_1 : decode cX9_clauseOf 1 = .ok (.ifCond .ne 8, 3) := by decide +kernel
theorem dX9_clauseOf_4 : decode cX9_clauseOf 4 = .ok (.bipush 72, 2) := by decide +kernel
theorem dX9_clauseOf_6 : decode cX9_clauseOf 6 = .ok (.goto 6, 3) := by decide +kernel
theorem dX9_clauseOf_9 : decode cX9_clauseOf 9 = .ok (.sipush 168, 3) := by decide +kernel
theorem dX9_clauseOf_12 : decode cX9_clauseOf 12 = .ok (.ireturn, 1) := by decide +kernel
theorem dX9_totalOf_0 : decode cX9_totalOf 0 = .ok (.iconst 0, 1) := by decide +kernel
theorem dX9_totalOf_1 : decode cX9_totalOf 1 = .ok (.istore_n 2, 1) := by decide +kernel
theorem dX9_totalOf_2 : decode cX9_totalOf 2 = .ok (.iconst 0, 1) := by decide +kernel
theorem dX9_totalOf_3 : decode cX9_totalOf 3 = .ok (.istore_n 3, 1) := by decide +kernel
theorem dX9_totalOf_4 : decode cX9_totalOf 4 = .ok (.iload_n 3, 1) := by decide +kernel
theorem dX9_totalOf_5 : decode cX9_totalOf 5 = .ok (.iload_n 1, 1) := by decide +kernel
theorem dX9_totalOf_6 : decode cX9_totalOf 6 = .ok (.if_icmp .ge 21, 3) := by decide +kernel
theorem dX9_totalOf_9 : decode cX9_totalOf 9 = .ok (.iload_n 3, 1) := by decide +kernel
theorem dX9_totalOf_10 : decode cX9_totalOf 10 = .ok (.aload_n 0, 1) := by decide +kernel
theorem dX9_totalOf_11 : decode cX9_totalOf 11 = .ok (.arraylength, 1) := by decide +kernel
theorem dX9_totalOf_12 : decode cX9_totalOf 12 = .ok (.if_icmp .ge 15, 3) := by decide +kernel
theorem dX9_totalOf_15 : decode cX9_totalOf 15 = .ok (.iload_n 2, 1) := by decide +kernel
theorem dX9_totalOf_16 : decode cX9_totalOf 16 = .ok (.aload_n 0, 1) := by decide +kernel
theorem dX9_totalOf_17 : decode cX9_totalOf 17 = .ok (.iload_n 3, 1) := by decide +kernel
theorem dX9_totalOf_18 : decode cX9_totalOf 18 = .ok (.iaload, 1) := by decide +kernel
theorem dX9_totalOf_19 : decode cX9_totalOf 19 = .ok (.iadd, 1) := by decide +kernel
theorem dX9_totalOf_20 : decode cX9_totalOf 20 = .ok (.istore_n 2, 1) := by decide +kernel
theorem dX9_totalOf_21 : decode cX9_totalOf 21 = .ok (.iinc 3 1, 3) := by decide +kernel
theorem dX9_totalOf_24 : decode cX9_totalOf 24 = .ok (.goto (-20), 3) := by decide +kernel
theorem dX9_totalOf_27 : decode cX9_totalOf 27 = .ok (.iload_n 2, 1) := by decide +kernel
theorem dX9_totalOf_28 : decode cX9_totalOf 28 = .ok (.ireturn, 1) := by decide +kernel
theorem dX9_bitsOf_0 : decode cX9_bitsOf 0 = .ok (.ldc2_w 369, 3) := by decide +kernel
theorem dX9_bitsOf_3 : decode cX9_bitsOf 3 = .ok (.dstore_n 2, 1) := by decide +kernel
theorem dX9_bitsOf_4 : decode cX9_bitsOf 4 = .ok (.dload_n 0, 1) := by decide +kernel
theorem dX9_bitsOf_5 : decode cX9_bitsOf 5 = .ok (.dconst 0, 1) := by decide +kernel
theorem dX9_bitsOf_6 : decode cX9_bitsOf 6 = .ok (.dcmp .g, 1) := by decide +kernel
theorem dX9_bitsOf_7 : decode cX9_bitsOf 7 = .ok (.ifCond .gt 5, 3) := by decide +kernel
theorem dX9_bitsOf_10 : decode cX9_bitsOf 10 = .ok (.lconst 0, 1) := by decide +kernel
theorem dX9_bitsOf_11 : decode cX9_bitsOf 11 = .ok (.lreturn, 1) := by decide +kernel
theorem dX9_bitsOf_12 : decode cX9_bitsOf 12 = .ok (.dload_n 0, 1) := by decide +kernel
theorem dX9_bitsOf_13 : decode cX9_bitsOf 13 = .ok (.dstore 4, 2) := by decide +kernel
theorem dX9_bitsOf_15 : decode cX9_bitsOf 15 = .ok (.ldc2_w 371, 3) := by decide +kernel
theorem dX9_bitsOf_18 : decode cX9_bitsOf 18 = .ok (.lstore 6, 2) := by decide +kernel
theorem dX9_bitsOf_20 : decode cX9_bitsOf 20 = .ok (.iconst 0, 1) := by decide +kernel
theorem dX9_bitsOf_21 : decode cX9_bitsOf 21 = .ok (.istore 8, 2) := by decide +kernel
theorem dX9_bitsOf_23 : decode cX9_bitsOf 23 = .ok (.iload 8, 2) := by decide +kernel
theorem dX9_bitsOf_25 : decode cX9_bitsOf 25 = .ok (.bipush 100, 2) := by decide +kernel
theorem dX9_bitsOf_27 : decode cX9_bitsOf 27 = .ok (.if_icmp .ge 30, 3) := by decide +kernel
theorem dX9_bitsOf_30 : decode cX9_bitsOf 30 = .ok (.dload 4, 2) := by decide +kernel
theorem dX9_bitsOf_32 : decode cX9_bitsOf 32 = .ok (.dload_n 2, 1) := by decide +kernel
theorem dX9_bitsOf_33 : decode cX9_bitsOf 33 = .ok (.dcmp .g, 1) := by decide +kernel
theorem dX9_bitsOf_34 : decode cX9_bitsOf 34 = .ok (.ifCond .ge 23, 3) := by decide +kernel
theorem dX9_bitsOf_37 : decode cX9_bitsOf 37 = .ok (.dload 4, 2) := by decide +kernel
theorem dX9_bitsOf_39 : decode cX9_bitsOf 39 = .ok (.ldc2_w 373, 3) := by decide +kernel
theorem dX9_bitsOf_42 : decode cX9_bitsOf 42 = .ok (.dmul, 1) := by decide +kernel
theorem dX9_bitsOf_43 : decode cX9_bitsOf 43 = .ok (.dstore 4, 2) := by decide +kernel
theorem dX9_bitsOf_45 : decode cX9_bitsOf 45 = .ok (.lload 6, 2) := by decide +kernel
theorem dX9_bitsOf_47 : decode cX9_bitsOf 47 = .ok (.lconst 1, 1) := by decide +kernel
theorem dX9_bitsOf_48 : decode cX9_bitsOf 48 = .ok (.lsub, 1) := by decide +kernel
theorem dX9_bitsOf_49 : decode cX9_bitsOf 49 = .ok (.lstore 6, 2) := by decide +kernel
theorem dX9_bitsOf_51 : decode cX9_bitsOf 51 = .ok (.iinc 8 1, 3) := by decide +kernel
theorem dX9_bitsOf_54 : decode cX9_bitsOf 54 = .ok (.goto (-31), 3) := by decide +kernel
theorem dX9_bitsOf_57 : decode cX9_bitsOf 57 = .ok (.lload 6, 2) := by decide +kernel
theorem dX9_bitsOf_59 : decode cX9_bitsOf 59 = .ok (.bipush 52, 2) := by decide +kernel
theorem dX9_bitsOf_61 : decode cX9_bitsOf 61 = .ok (.lshl, 1) := by decide +kernel
theorem dX9_bitsOf_62 : decode cX9_bitsOf 62 = .ok (.dload 4, 2) := by decide +kernel
theorem dX9_bitsOf_64 : decode cX9_bitsOf 64 = .ok (.d2l, 1) := by decide +kernel
theorem dX9_bitsOf_65 : decode cX9_bitsOf 65 = .ok (.ldc2_w 375, 3) := by decide +kernel
theorem dX9_bitsOf_68 : decode cX9_bitsOf 68 = .ok (.land, 1) := by decide +kernel
theorem dX9_bitsOf_69 : decode cX9_bitsOf 69 = .ok (.lor, 1) := by decide +kernel
theorem dX9_bitsOf_70 : decode cX9_bitsOf 70 = .ok (.lreturn, 1) := by decide +kernel
