/-! decode rows: the reference, first half -/
theorem dX12_init_0 : decode cX12_init 0 = .ok (.aload_n 0, 1) := by decide +kernel
theorem dX12_init_1 : decode cX12_init 1 = .ok (.invokespecial 1, 3) := by decide +kernel
theorem dX12_init_4 : decode cX12_init 4 = .ok (.aload_n 0, 1) := by decide +kernel
theorem dX12_init_5 : decode cX12_init 5 = .ok (.bipush 102, 2) := by decide +kernel
theorem dX12_init_7 : decode cX12_init 7 = .ok (.newarray .int, 2) := by decide +kernel
theorem dX12_init_9 : decode cX12_init 9 = .ok (.putfield 9, 3) := by decide +kernel
theorem dX12_init_12 : decode cX12_init 12 = .ok (.aload_n 0, 1) := by decide +kernel
theorem dX12_init_13 : decode cX12_init 13 = .ok (.bipush 102, 2) := by decide +kernel
theorem dX12_init_15 : decode cX12_init 15 = .ok (.newarray .int, 2) := by decide +kernel
theorem dX12_init_17 : decode cX12_init 17 = .ok (.putfield 13, 3) := by decide +kernel
theorem dX12_init_20 : decode cX12_init 20 = .ok (.aload_n 0, 1) := by decide +kernel
theorem dX12_init_21 : decode cX12_init 21 = .ok (.bipush 102, 2) := by decide +kernel
theorem dX12_init_23 : decode cX12_init 23 = .ok (.newarray .int, 2) := by decide +kernel
theorem dX12_init_25 : decode cX12_init 25 = .ok (.putfield 16, 3) := by decide +kernel
theorem dX12_init_28 : decode cX12_init 28 = .ok (.aload_n 0, 1) := by decide +kernel
theorem dX12_init_29 : decode cX12_init 29 = .ok (.bipush 102, 2) := by decide +kernel
theorem dX12_init_31 : decode cX12_init 31 = .ok (.newarray .int, 2) := by decide +kernel
theorem dX12_init_33 : decode cX12_init 33 = .ok (.putfield 19, 3) := by decide +kernel
theorem dX12_init_36 : decode cX12_init 36 = .ok (.aload_n 0, 1) := by decide +kernel
theorem dX12_init_37 : decode cX12_init 37 = .ok (.bipush 96, 2) := by decide +kernel
theorem dX12_init_39 : decode cX12_init 39 = .ok (.newarray .int, 2) := by decide +kernel
theorem dX12_init_41 : decode cX12_init 41 = .ok (.putfield 22, 3) := by decide +kernel
theorem dX12_init_44 : decode cX12_init 44 = .ok (.aload_n 0, 1) := by decide +kernel
theorem dX12_init_45 : decode cX12_init 45 = .ok (.bipush 12, 2) := by decide +kernel
theorem dX12_init_47 : decode cX12_init 47 = .ok (.newarray .int, 2) := by decide +kernel
theorem dX12_init_49 : decode cX12_init 49 = .ok (.putfield 25, 3) := by decide +kernel
theorem dX12_init_52 : decode cX12_init 52 = .ok (.aload_n 0, 1) := by decide +kernel
theorem dX12_init_53 : decode cX12_init 53 = .ok (.bipush 7, 2) := by decide +kernel
theorem dX12_init_55 : decode cX12_init 55 = .ok (.newarray .int, 2) := by decide +kernel
theorem dX12_init_57 : decode cX12_init 57 = .ok (.putfield 28, 3) := by decide +kernel
theorem dX12_init_60 : decode cX12_init 60 = .ok (.aload_n 0, 1) := by decide +kernel
theorem dX12_init_61 : decode cX12_init 61 = .ok (.bipush 10, 2) := by decide +kernel
theorem dX12_init_63 : decode cX12_init 63 = .ok (.newarray .int, 2) := by decide +kernel
theorem dX12_init_65 : decode cX12_init 65 = .ok (.putfield 31, 3) := by decide +kernel
theorem dX12_init_68 : decode cX12_init 68 = .ok (.aload_n 0, 1) := by decide +kernel
theorem dX12_init_69 : decode cX12_init 69 = .ok (.bipush 10, 2) := by decide +kernel
theorem dX12_init_71 : decode cX12_init 71 = .ok (.newarray .int, 2) := by decide +kernel
theorem dX12_init_73 : decode cX12_init 73 = .ok (.putfield 34, 3) := by decide +kernel
theorem dX12_init_76 : decode cX12_init 76 = .ok (.aload_n 0, 1) := by decide +kernel
theorem dX12_init_77 : decode cX12_init 77 = .ok (.bipush 10, 2) := by decide +kernel
theorem dX12_init_79 : decode cX12_init 79 = .ok (.newarray .int, 2) := by decide +kernel
theorem dX12_init_81 : decode cX12_init 81 = .ok (.putfield 37, 3) := by decide +kernel
theorem dX12_init_84 : decode cX12_init 84 = .ok (.aload_n 0, 1) := by decide +kernel
theorem dX12_init_85 : decode cX12_init 85 = .ok (.bipush 12, 2) := by decide +kernel
theorem dX12_init_87 : decode cX12_init 87 = .ok (.newarray .int, 2) := by decide +kernel
theorem dX12_init_89 : decode cX12_init 89 = .ok (.putfield 40, 3) := by decide +kernel
theorem dX12_init_92 : decode cX12_init 92 = .ok (.aload_n 0, 1) := by decide +kernel
theorem dX12_init_93 : decode cX12_init 93 = .ok (.bipush 10, 2) := by decide +kernel
theorem dX12_init_95 : decode cX12_init 95 = .ok (.newarray .int, 2) := by decide +kernel
theorem dX12_init_97 : decode cX12_init 97 = .ok (.putfield 43, 3) := by decide +kernel
theorem dX12_init_100 : decode cX12_init 100 = .ok (.aload_n 0, 1) := by decide +kernel
theorem dX12_init_101 : decode cX12_init 101 = .ok (.sipush 1100, 3) := by decide +kernel
theorem dX12_init_104 : decode cX12_init 104 = .ok (.newarray .int, 2) := by decide +kernel
theorem dX12_init_106 : decode cX12_init 106 = .ok (.putfield 46, 3) := by decide +kernel
theorem dX12_init_109 : decode cX12_init 109 = .ok (.aload_n 0, 1) := by decide +kernel
theorem dX12_init_110 : decode cX12_init 110 = .ok (.sipush 3100, 3) := by decide +kernel
theorem dX12_init_113 : decode cX12_init 113 = .ok (.newarray .int, 2) := by decide +kernel
theorem dX12_init_115 : decode cX12_init 115 = .ok (.putfield 49, 3) := by decide +kernel
theorem dX12_init_118 : decode cX12_init 118 = .ok (.aload_n 0, 1) := by decide +kernel
theorem dX12_init_119 : decode cX12_init 119 = .ok (.sipush 3100, 3) := by decide +kernel
theorem dX12_init_122 : decode cX12_init 122 = .ok (.newarray .int, 2) := by decide +kernel
theorem dX12_init_124 : decode cX12_init 124 = .ok (.putfield 52, 3) := by decide +kernel
theorem dX12_init_127 : decode cX12_init 127 = .ok (.bipush 52, 2) := by decide +kernel
theorem dX12_init_129 : decode cX12_init 129 = .ok (.istore_n 1, 1) := by decide +kernel
theorem dX12_init_130 : decode cX12_init 130 = .ok (.iload_n 1, 1) := by decide +kernel
theorem dX12_init_131 : decode cX12_init 131 = .ok (.bipush 102, 2) := by decide +kernel
theorem dX12_init_133 : decode cX12_init 133 = .ok (.if_icmp .ge 16, 3) := by decide +kernel
theorem dX12_init_136 : decode cX12_init 136 = .ok (.aload_n 0, 1) := by decide +kernel
theorem dX12_init_137 : decode cX12_init 137 = .ok (.getfield 9, 3) := by decide +kernel
theorem dX12_init_140 : decode cX12_init 140 = .ok (.iload_n 1, 1) := by decide +kernel
theorem dX12_init_141 : decode cX12_init 141 = .ok (.iconst 1, 1) := by decide +kernel
theorem dX12_init_142 : decode cX12_init 142 = .ok (.iastore, 1) := by decide +kernel
theorem dX12_init_143 : decode cX12_init 143 = .ok (.iinc 1 1, 3) := by decide +kernel
theorem dX12_init_146 : decode cX12_init 146 = .ok (.goto (-16), 3) := by decide +kernel
theorem dX12_init_149 : decode cX12_init 149 = .ok (.return_, 1) := by decide +kernel
theorem dX12_isIn_0 : decode cX12_isIn 0 = .ok (.iload_n 0, 1) := by decide +kernel
theorem dX12_isIn_1 : decode cX12_isIn 1 = .ok (.iload_n 1, 1) := by decide +kernel
theorem dX12_isIn_2 : decode cX12_isIn 2 = .ok (.if_icmp .lt 12, 3) := by decide +kernel
theorem dX12_isIn_5 : decode cX12_isIn 5 = .ok (.iload_n 0, 1) := by decide +kernel
theorem dX12_isIn_6 : decode cX12_isIn 6 = .ok (.iload_n 2, 1) := by decide +kernel
theorem dX12_isIn_7 : decode cX12_isIn 7 = .ok (.if_icmp .gt 7, 3) := by decide +kernel
theorem dX12_isIn_10 : decode cX12_isIn 10 = .ok (.iconst 1, 1) := by decide +kernel
theorem dX12_isIn_11 : decode cX12_isIn 11 = .ok (.goto 4, 3) := by decide +kernel
theorem dX12_isIn_14 : decode cX12_isIn 14 = .ok (.iconst 0, 1) := by decide +kernel
theorem dX12_isIn_15 : decode cX12_isIn 15 = .ok (.ireturn, 1) := by decide +kernel
theorem dX12_least_0 : decode cX12_least 0 = .ok (.iload_n 0, 1) := by decide +kernel
theorem dX12_least_1 : decode cX12_least 1 = .ok (.iload_n 1, 1) := by decide +kernel
theorem dX12_least_2 : decode cX12_least 2 = .ok (.if_icmp .ge 7, 3) := by decide +kernel
theorem dX12_least_5 : decode cX12_least 5 = .ok (.iload_n 0, 1) := by decide +kernel
theorem dX12_least_6 : decode cX12_least 6 = .ok (.goto 4, 3) := by decide +kernel
theorem dX12_least_9 : decode cX12_least 9 = .ok (.iload_n 1, 1) := by decide +kernel
theorem dX12_least_10 : decode cX12_least 10 = .ok (.ireturn, 1) := by decide +kernel
theorem dX12_most_0 : decode cX12_most 0 = .ok (.iload_n 0, 1) := by decide +kernel
theorem dX12_most_1 : decode cX12_most 1 = .ok (.iload_n 1, 1) := by decide +kernel
theorem dX12_most_2 : decode cX12_most 2 = .ok (.if_icmp .le 7, 3) := by decide +kernel
theorem dX12_most_5 : decode cX12_most 5 = .ok (.iload_n 0, 1) := by decide +kernel
theorem dX12_most_6 : decode cX12_most 6 = .ok (.goto 4, 3) := by decide +kernel
theorem dX12_most_9 : decode cX12_most 9 = .ok (.iload_n 1, 1) := by decide +kernel
theorem dX12_most_10 : decode cX12_most 10 = .ok (.ireturn, 1) := by decide +kernel
theorem dX12_lays_0 : decode cX12_lays 0 = .ok (.iconst 0, 1) := by decide +kernel
theorem dX12_lays_1 : decode cX12_lays 1 = .ok (.istore_n 2, 1) := by decide +kernel
theorem dX12_lays_2 : decode cX12_lays 2 = .ok (.iload_n 2, 1) := by decide +kernel
theorem dX12_lays_3 : decode cX12_lays 3 = .ok (.bipush 102, 2) := by decide +kernel
theorem dX12_lays_5 : decode cX12_lays 5 = .ok (.if_icmp .ge 15, 3) := by decide +kernel
theorem dX12_lays_8 : decode cX12_lays 8 = .ok (.aload_n 1, 1) := by decide +kernel
theorem dX12_lays_9 : decode cX12_lays 9 = .ok (.iload_n 2, 1) := by decide +kernel
theorem dX12_lays_10 : decode cX12_lays 10 = .ok (.aload_n 0, 1) := by decide +kernel
theorem dX12_lays_11 : decode cX12_lays 11 = .ok (.iload_n 2, 1) := by decide +kernel
theorem dX12_lays_12 : decode cX12_lays 12 = .ok (.iaload, 1) := by decide +kernel
theorem dX12_lays_13 : decode cX12_lays 13 = .ok (.iastore, 1) := by decide +kernel
theorem dX12_lays_14 : decode cX12_lays 14 = .ok (.iinc 2 1, 3) := by decide +kernel
theorem dX12_lays_17 : decode cX12_lays 17 = .ok (.goto (-15), 3) := by decide +kernel
theorem dX12_lays_20 : decode cX12_lays 20 = .ok (.return_, 1) := by decide +kernel
theorem dX12_no_0 : decode cX12_no 0 = .ok (.aload_n 0, 1) := by decide +kernel
theorem dX12_no_1 : decode cX12_no 1 = .ok (.getfield 28, 3) := by decide +kernel
theorem dX12_no_4 : decode cX12_no 4 = .ok (.iload_n 1, 1) := by decide +kernel
theorem dX12_no_5 : decode cX12_no 5 = .ok (.ineg, 1) := by decide +kernel
theorem dX12_no_6 : decode cX12_no 6 = .ok (.dup2, 1) := by decide +kernel
theorem dX12_no_7 : decode cX12_no 7 = .ok (.iaload, 1) := by decide +kernel
theorem dX12_no_8 : decode cX12_no 8 = .ok (.iconst 1, 1) := by decide +kernel
theorem dX12_no_9 : decode cX12_no 9 = .ok (.iadd, 1) := by decide +kernel
theorem dX12_no_10 : decode cX12_no 10 = .ok (.iastore, 1) := by decide +kernel
theorem dX12_no_11 : decode cX12_no 11 = .ok (.iload_n 1, 1) := by decide +kernel
theorem dX12_no_12 : decode cX12_no 12 = .ok (.ireturn, 1) := by decide +kernel
theorem dX12_noFar_0 : decode cX12_noFar 0 = .ok (.ldc 55, 2) := by decide +kernel
theorem dX12_noFar_2 : decode cX12_noFar 2 = .ok (.aload_n 0, 1) := by decide +kernel
theorem dX12_noFar_3 : decode cX12_noFar 3 = .ok (.iload_n 1, 1) := by decide +kernel
theorem dX12_noFar_4 : decode cX12_noFar 4 = .ok (.invokevirtual 56, 3) := by decide +kernel
theorem dX12_noFar_7 : decode cX12_noFar 7 = .ok (.isub, 1) := by decide +kernel
theorem dX12_noFar_8 : decode cX12_noFar 8 = .ok (.ireturn, 1) := by decide +kernel
theorem dX12_noWide_0 : decode cX12_noWide 0 = .ok (.ldc2_w 60, 3) := by decide +kernel
theorem dX12_noWide_3 : decode cX12_noWide 3 = .ok (.aload_n 0, 1) := by decide +kernel
theorem dX12_noWide_4 : decode cX12_noWide 4 = .ok (.iload_n 1, 1) := by decide +kernel
theorem dX12_noWide_5 : decode cX12_noWide 5 = .ok (.invokevirtual 56, 3) := by decide +kernel
theorem dX12_noWide_8 : decode cX12_noWide 8 = .ok (.i2l, 1) := by decide +kernel
theorem dX12_noWide_9 : decode cX12_noWide 9 = .ok (.lsub, 1) := by decide +kernel
theorem dX12_noWide_10 : decode cX12_noWide 10 = .ok (.lreturn, 1) := by decide +kernel
theorem dX12_of_0 : decode cX12_of 0 = .ok (.iconst 2, 1) := by decide +kernel
theorem dX12_of_1 : decode cX12_of 1 = .ok (.iconst 3, 1) := by decide +kernel
theorem dX12_of_2 : decode cX12_of 2 = .ok (.iload_n 0, 1) := by decide +kernel
theorem dX12_of_3 : decode cX12_of 3 = .ok (.imul, 1) := by decide +kernel
theorem dX12_of_4 : decode cX12_of 4 = .ok (.iadd, 1) := by decide +kernel
theorem dX12_of_5 : decode cX12_of 5 = .ok (.iload_n 1, 1) := by decide +kernel
theorem dX12_of_6 : decode cX12_of 6 = .ok (.iadd, 1) := by decide +kernel
theorem dX12_of_7 : decode cX12_of 7 = .ok (.ireturn, 1) := by decide +kernel
theorem dX12_athleteAt_0 : decode cX12_athleteAt 0 = .ok (.bipush 32, 2) := by decide +kernel
theorem dX12_athleteAt_2 : decode cX12_athleteAt 2 = .ok (.iconst 4, 1) := by decide +kernel
theorem dX12_athleteAt_3 : decode cX12_athleteAt 3 = .ok (.iload_n 0, 1) := by decide +kernel
theorem dX12_athleteAt_4 : decode cX12_athleteAt 4 = .ok (.imul, 1) := by decide +kernel
theorem dX12_athleteAt_5 : decode cX12_athleteAt 5 = .ok (.iadd, 1) := by decide +kernel
theorem dX12_athleteAt_6 : decode cX12_athleteAt 6 = .ok (.iload_n 1, 1) := by decide +kernel
theorem dX12_athleteAt_7 : decode cX12_athleteAt 7 = .ok (.iadd, 1) := by decide +kernel
theorem dX12_athleteAt_8 : decode cX12_athleteAt 8 = .ok (.ireturn, 1) := by decide +kernel
theorem dX12_tried_0 : decode cX12_tried 0 = .ok (.bipush 52, 2) := by decide +kernel
theorem dX12_tried_2 : decode cX12_tried 2 = .ok (.bipush 10, 2) := by decide +kernel
theorem dX12_tried_4 : decode cX12_tried 4 = .ok (.iload_n 0, 1) := by decide +kernel
theorem dX12_tried_5 : decode cX12_tried 5 = .ok (.imul, 1) := by decide +kernel
theorem dX12_tried_6 : decode cX12_tried 6 = .ok (.iadd, 1) := by decide +kernel
theorem dX12_tried_7 : decode cX12_tried 7 = .ok (.iload_n 1, 1) := by decide +kernel
theorem dX12_tried_8 : decode cX12_tried 8 = .ok (.iadd, 1) := by decide +kernel
theorem dX12_tried_9 : decode cX12_tried 9 = .ok (.ireturn, 1) := by decide +kernel
theorem dX12_isSection_0 : decode cX12_isSection 0 = .ok (.iload_n 1, 1) := by decide +kernel
theorem dX12_isSection_1 : decode cX12_isSection 1 = .ok (.iconst 0, 1) := by decide +kernel
theorem dX12_isSection_2 : decode cX12_isSection 2 = .ok (.aload_n 0, 1) := by decide +kernel
theorem dX12_isSection_3 : decode cX12_isSection 3 = .ok (.getfield 9, 3) := by decide +kernel
theorem dX12_isSection_6 : decode cX12_isSection 6 = .ok (.iconst 0, 1) := by decide +kernel
theorem dX12_isSection_7 : decode cX12_isSection 7 = .ok (.iaload, 1) := by decide +kernel
theorem dX12_isSection_8 : decode cX12_isSection 8 = .ok (.iconst 1, 1) := by decide +kernel
theorem dX12_isSection_9 : decode cX12_isSection 9 = .ok (.isub, 1) := by decide +kernel
theorem dX12_isSection_10 : decode cX12_isSection 10 = .ok (.invokestatic 62, 3) := by decide +kernel
theorem dX12_isSection_13 : decode cX12_isSection 13 = .ok (.ireturn, 1) := by decide +kernel
theorem dX12_isAthlete_0 : decode cX12_isAthlete 0 = .ok (.iload_n 1, 1) := by decide +kernel
theorem dX12_isAthlete_1 : decode cX12_isAthlete 1 = .ok (.iconst 0, 1) := by decide +kernel
theorem dX12_isAthlete_2 : decode cX12_isAthlete 2 = .ok (.aload_n 0, 1) := by decide +kernel
theorem dX12_isAthlete_3 : decode cX12_isAthlete 3 = .ok (.getfield 9, 3) := by decide +kernel
theorem dX12_isAthlete_6 : decode cX12_isAthlete 6 = .ok (.iconst 1, 1) := by decide +kernel
theorem dX12_isAthlete_7 : decode cX12_isAthlete 7 = .ok (.iaload, 1) := by decide +kernel
theorem dX12_isAthlete_8 : decode cX12_isAthlete 8 = .ok (.iconst 1, 1) := by decide +kernel
theorem dX12_isAthlete_9 : decode cX12_isAthlete 9 = .ok (.isub, 1) := by decide +kernel
theorem dX12_isAthlete_10 : decode cX12_isAthlete 10 = .ok (.invokestatic 62, 3) := by decide +kernel
theorem dX12_isAthlete_13 : decode cX12_isAthlete 13 = .ok (.ireturn, 1) := by decide +kernel
theorem dX12_isRide_0 : decode cX12_isRide 0 = .ok (.aload_n 0, 1) := by decide +kernel
theorem dX12_isRide_1 : decode cX12_isRide 1 = .ok (.iload_n 1, 1) := by decide +kernel
theorem dX12_isRide_2 : decode cX12_isRide 2 = .ok (.iconst 0, 1) := by decide +kernel
theorem dX12_isRide_3 : decode cX12_isRide 3 = .ok (.invokestatic 66, 3) := by decide +kernel
theorem dX12_isRide_6 : decode cX12_isRide 6 = .ok (.iaload, 1) := by decide +kernel
theorem dX12_isRide_7 : decode cX12_isRide 7 = .ok (.iconst 2, 1) := by decide +kernel
theorem dX12_isRide_8 : decode cX12_isRide 8 = .ok (.iconst 4, 1) := by decide +kernel
theorem dX12_isRide_9 : decode cX12_isRide 9 = .ok (.invokestatic 62, 3) := by decide +kernel
theorem dX12_isRide_12 : decode cX12_isRide 12 = .ok (.ireturn, 1) := by decide +kernel
theorem dX12_takes_0 : decode cX12_takes 0 = .ok (.aload_n 0, 1) := by decide +kernel
theorem dX12_takes_1 : decode cX12_takes 1 = .ok (.iload_n 1, 1) := by decide +kernel
theorem dX12_takes_2 : decode cX12_takes 2 = .ok (.iconst 0, 1) := by decide +kernel
theorem dX12_takes_3 : decode cX12_takes 3 = .ok (.invokestatic 66, 3) := by decide +kernel
theorem dX12_takes_6 : decode cX12_takes 6 = .ok (.iaload, 1) := by decide +kernel
theorem dX12_takes_7 : decode cX12_takes 7 = .ok (.istore_n 2, 1) := by decide +kernel
theorem dX12_takes_8 : decode cX12_takes 8 = .ok (.iload_n 2, 1) := by decide +kernel
theorem dX12_takes_9 : decode cX12_takes 9 = .ok (.bipush 6, 2) := by decide +kernel
theorem dX12_takes_11 : decode cX12_takes 11 = .ok (.if_icmp .ne 7, 3) := by decide +kernel
theorem dX12_takes_14 : decode cX12_takes 14 = .ok (.iconst 0, 1) := by decide +kernel
theorem dX12_takes_15 : decode cX12_takes 15 = .ok (.goto 22, 3) := by decide +kernel
theorem dX12_takes_18 : decode cX12_takes 18 = .ok (.iload_n 2, 1) := by decide +kernel
theorem dX12_takes_19 : decode cX12_takes 19 = .ok (.iconst 2, 1) := by decide +kernel
theorem dX12_takes_20 : decode cX12_takes 20 = .ok (.if_icmp .ge 7, 3) := by decide +kernel
theorem dX12_takes_23 : decode cX12_takes 23 = .ok (.iconst 1, 1) := by decide +kernel
theorem dX12_takes_24 : decode cX12_takes 24 = .ok (.goto 13, 3) := by decide +kernel
theorem dX12_takes_27 : decode cX12_takes 27 = .ok (.iload_n 2, 1) := by decide +kernel
theorem dX12_takes_28 : decode cX12_takes 28 = .ok (.iconst 3, 1) := by decide +kernel
theorem dX12_takes_29 : decode cX12_takes 29 = .ok (.if_icmp .ne 7, 3) := by decide +kernel
theorem dX12_takes_32 : decode cX12_takes 32 = .ok (.iconst 3, 1) := by decide +kernel
theorem dX12_takes_33 : decode cX12_takes 33 = .ok (.goto 4, 3) := by decide +kernel
theorem dX12_takes_36 : decode cX12_takes 36 = .ok (.iconst 2, 1) := by decide +kernel
theorem dX12_takes_37 : decode cX12_takes 37 = .ok (.ireturn, 1) := by decide +kernel
theorem dX12_plain_0 : decode cX12_plain 0 = .ok (.aload_n 0, 1) := by decide +kernel
theorem dX12_plain_1 : decode cX12_plain 1 = .ok (.iload_n 2, 1) := by decide +kernel
theorem dX12_plain_2 : decode cX12_plain 2 = .ok (.iconst 1, 1) := by decide +kernel
theorem dX12_plain_3 : decode cX12_plain 3 = .ok (.invokestatic 66, 3) := by decide +kernel
theorem dX12_plain_6 : decode cX12_plain 6 = .ok (.iaload, 1) := by decide +kernel
theorem dX12_plain_7 : decode cX12_plain 7 = .ok (.istore_n 3, 1) := by decide +kernel
theorem dX12_plain_8 : decode cX12_plain 8 = .ok (.aload_n 0, 1) := by decide +kernel
theorem dX12_plain_9 : decode cX12_plain 9 = .ok (.iload_n 2, 1) := by decide +kernel
theorem dX12_plain_10 : decode cX12_plain 10 = .ok (.iconst 2, 1) := by decide +kernel
theorem dX12_plain_11 : decode cX12_plain 11 = .ok (.invokestatic 66, 3) := by decide +kernel
theorem dX12_plain_14 : decode cX12_plain 14 = .ok (.iaload, 1) := by decide +kernel
theorem dX12_plain_15 : decode cX12_plain 15 = .ok (.istore 4, 2) := by decide +kernel
theorem dX12_plain_17 : decode cX12_plain 17 = .ok (.iload 4, 2) := by decide +kernel
theorem dX12_plain_19 : decode cX12_plain 19 = .ok (.bipush 20, 2) := by decide +kernel
theorem dX12_plain_21 : decode cX12_plain 21 = .ok (.aload_n 0, 1) := by decide +kernel
theorem dX12_plain_22 : decode cX12_plain 22 = .ok (.iload_n 1, 1) := by decide +kernel
theorem dX12_plain_23 : decode cX12_plain 23 = .ok (.iconst 0, 1) := by decide +kernel
theorem dX12_plain_24 : decode cX12_plain 24 = .ok (.invokestatic 70, 3) := by decide +kernel
theorem dX12_plain_27 : decode cX12_plain 27 = .ok (.iaload, 1) := by decide +kernel
theorem dX12_plain_28 : decode cX12_plain 28 = .ok (.isub, 1) := by decide +kernel
theorem dX12_plain_29 : decode cX12_plain 29 = .ok (.imul, 1) := by decide +kernel
theorem dX12_plain_30 : decode cX12_plain 30 = .ok (.istore 5, 2) := by decide +kernel
theorem dX12_plain_32 : decode cX12_plain 32 = .ok (.iload 4, 2) := by decide +kernel
theorem dX12_plain_34 : decode cX12_plain 34 = .ok (.bipush 20, 2) := by decide +kernel
theorem dX12_plain_36 : decode cX12_plain 36 = .ok (.aload_n 0, 1) := by decide +kernel
theorem dX12_plain_37 : decode cX12_plain 37 = .ok (.iload_n 1, 1) := by decide +kernel
theorem dX12_plain_38 : decode cX12_plain 38 = .ok (.iconst 1, 1) := by decide +kernel
theorem dX12_plain_39 : decode cX12_plain 39 = .ok (.invokestatic 70, 3) := by decide +kernel
theorem dX12_plain_42 : decode cX12_plain 42 = .ok (.iaload, 1) := by decide +kernel
theorem dX12_plain_43 : decode cX12_plain 43 = .ok (.isub, 1) := by decide +kernel
theorem dX12_plain_44 : decode cX12_plain 44 = .ok (.imul, 1) := by decide +kernel
theorem dX12_plain_45 : decode cX12_plain 45 = .ok (.istore 6, 2) := by decide +kernel
theorem dX12_plain_47 : decode cX12_plain 47 = .ok (.aload_n 0, 1) := by decide +kernel
theorem dX12_plain_48 : decode cX12_plain 48 = .ok (.iload_n 2, 1) := by decide +kernel
theorem dX12_plain_49 : decode cX12_plain 49 = .ok (.iconst 0, 1) := by decide +kernel
theorem dX12_plain_50 : decode cX12_plain 50 = .ok (.invokestatic 66, 3) := by decide +kernel
theorem dX12_plain_53 : decode cX12_plain 53 = .ok (.iaload, 1) := by decide +kernel
theorem dX12_plain_54 : decode cX12_plain 54 = .ok (.tableswitch 107 0 5 #[38, 41, 49, 52, 60, 70], 38) := by decide +kernel
theorem dX12_plain_92 : decode cX12_plain 92 = .ok (.iload 5, 2) := by decide +kernel
theorem dX12_plain_94 : decode cX12_plain 94 = .ok (.ireturn, 1) := by decide +kernel
theorem dX12_plain_95 : decode cX12_plain 95 = .ok (.iload 5, 2) := by decide +kernel
theorem dX12_plain_97 : decode cX12_plain 97 = .ok (.iload 4, 2) := by decide +kernel
theorem dX12_plain_99 : decode cX12_plain 99 = .ok (.iload_n 3, 1) := by decide +kernel
theorem dX12_plain_100 : decode cX12_plain 100 = .ok (.imul, 1) := by decide +kernel
theorem dX12_plain_101 : decode cX12_plain 101 = .ok (.isub, 1) := by decide +kernel
theorem dX12_plain_102 : decode cX12_plain 102 = .ok (.ireturn, 1) := by decide +kernel
theorem dX12_plain_103 : decode cX12_plain 103 = .ok (.iload 6, 2) := by decide +kernel
theorem dX12_plain_105 : decode cX12_plain 105 = .ok (.ireturn, 1) := by decide +kernel
theorem dX12_plain_106 : decode cX12_plain 106 = .ok (.iload 6, 2) := by decide +kernel
theorem dX12_plain_108 : decode cX12_plain 108 = .ok (.iload 4, 2) := by decide +kernel
theorem dX12_plain_110 : decode cX12_plain 110 = .ok (.iload_n 3, 1) := by decide +kernel
theorem dX12_plain_111 : decode cX12_plain 111 = .ok (.imul, 1) := by decide +kernel
theorem dX12_plain_112 : decode cX12_plain 112 = .ok (.iadd, 1) := by decide +kernel
theorem dX12_plain_113 : decode cX12_plain 113 = .ok (.ireturn, 1) := by decide +kernel
theorem dX12_plain_114 : decode cX12_plain 114 = .ok (.iload 6, 2) := by decide +kernel
theorem dX12_plain_116 : decode cX12_plain 116 = .ok (.iload 4, 2) := by decide +kernel
theorem dX12_plain_118 : decode cX12_plain 118 = .ok (.iload_n 3, 1) := by decide +kernel
theorem dX12_plain_119 : decode cX12_plain 119 = .ok (.iconst 2, 1) := by decide +kernel
theorem dX12_plain_120 : decode cX12_plain 120 = .ok (.idiv, 1) := by decide +kernel
theorem dX12_plain_121 : decode cX12_plain 121 = .ok (.imul, 1) := by decide +kernel
theorem dX12_plain_122 : decode cX12_plain 122 = .ok (.iadd, 1) := by decide +kernel
theorem dX12_plain_123 : decode cX12_plain 123 = .ok (.ireturn, 1) := by decide +kernel
theorem dX12_plain_124 : decode cX12_plain 124 = .ok (.iload 4, 2) := by decide +kernel
theorem dX12_plain_126 : decode cX12_plain 126 = .ok (.bipush 22, 2) := by decide +kernel
theorem dX12_plain_128 : decode cX12_plain 128 = .ok (.aload_n 0, 1) := by decide +kernel
theorem dX12_plain_129 : decode cX12_plain 129 = .ok (.iload_n 1, 1) := by decide +kernel
theorem dX12_plain_130 : decode cX12_plain 130 = .ok (.iconst 2, 1) := by decide +kernel
theorem dX12_plain_131 : decode cX12_plain 131 = .ok (.invokestatic 70, 3) := by decide +kernel
theorem dX12_plain_134 : decode cX12_plain 134 = .ok (.iaload, 1) := by decide +kernel
theorem dX12_plain_135 : decode cX12_plain 135 = .ok (.isub, 1) := by decide +kernel
theorem dX12_plain_136 : decode cX12_plain 136 = .ok (.imul, 1) := by decide +kernel
theorem dX12_plain_137 : decode cX12_plain 137 = .ok (.iload_n 2, 1) := by decide +kernel
theorem dX12_plain_138 : decode cX12_plain 138 = .ok (.ifCond .le 20, 3) := by decide +kernel
theorem dX12_plain_141 : decode cX12_plain 141 = .ok (.aload_n 0, 1) := by decide +kernel
theorem dX12_plain_142 : decode cX12_plain 142 = .ok (.iload_n 2, 1) := by decide +kernel
theorem dX12_plain_143 : decode cX12_plain 143 = .ok (.iconst 1, 1) := by decide +kernel
theorem dX12_plain_144 : decode cX12_plain 144 = .ok (.isub, 1) := by decide +kernel
theorem dX12_plain_145 : decode cX12_plain 145 = .ok (.invokestatic 73, 3) := by decide +kernel
theorem dX12_plain_148 : decode cX12_plain 148 = .ok (.ifCond .eq 10, 3) := by decide +kernel
theorem dX12_plain_151 : decode cX12_plain 151 = .ok (.iload 4, 2) := by decide +kernel
theorem dX12_plain_153 : decode cX12_plain 153 = .ok (.iload_n 3, 1) := by decide +kernel
theorem dX12_plain_154 : decode cX12_plain 154 = .ok (.iadd, 1) := by decide +kernel
theorem dX12_plain_155 : decode cX12_plain 155 = .ok (.goto 4, 3) := by decide +kernel
theorem dX12_plain_158 : decode cX12_plain 158 = .ok (.iconst 0, 1) := by decide +kernel
theorem dX12_plain_159 : decode cX12_plain 159 = .ok (.iadd, 1) := by decide +kernel
theorem dX12_plain_160 : decode cX12_plain 160 = .ok (.ireturn, 1) := by decide +kernel
theorem dX12_plain_161 : decode cX12_plain 161 = .ok (.bipush 10, 2) := by decide +kernel
theorem dX12_plain_163 : decode cX12_plain 163 = .ok (.iconst 5, 1) := by decide +kernel
theorem dX12_plain_164 : decode cX12_plain 164 = .ok (.iload_n 3, 1) := by decide +kernel
theorem dX12_plain_165 : decode cX12_plain 165 = .ok (.imul, 1) := by decide +kernel
theorem dX12_plain_166 : decode cX12_plain 166 = .ok (.iadd, 1) := by decide +kernel
theorem dX12_plain_167 : decode cX12_plain 167 = .ok (.ireturn, 1) := by decide +kernel
theorem dX12_secondsBy_0 : decode cX12_secondsBy 0 = .ok (.aload_n 0, 1) := by decide +kernel
theorem dX12_secondsBy_1 : decode cX12_secondsBy 1 = .ok (.iload_n 1, 1) := by decide +kernel
theorem dX12_secondsBy_2 : decode cX12_secondsBy 2 = .ok (.iload_n 2, 1) := by decide +kernel
theorem dX12_secondsBy_3 : decode cX12_secondsBy 3 = .ok (.invokestatic 77, 3) := by decide +kernel
theorem dX12_secondsBy_6 : decode cX12_secondsBy 6 = .ok (.istore 5, 2) := by decide +kernel
theorem dX12_secondsBy_8 : decode cX12_secondsBy 8 = .ok (.iload_n 3, 1) := by decide +kernel
theorem dX12_secondsBy_9 : decode cX12_secondsBy 9 = .ok (.ifCond .le 17, 3) := by decide +kernel
theorem dX12_secondsBy_12 : decode cX12_secondsBy 12 = .ok (.iload 5, 2) := by decide +kernel
theorem dX12_secondsBy_14 : decode cX12_secondsBy 14 = .ok (.iload 5, 2) := by decide +kernel
theorem dX12_secondsBy_16 : decode cX12_secondsBy 16 = .ok (.iload 4, 2) := by decide +kernel
theorem dX12_secondsBy_18 : decode cX12_secondsBy 18 = .ok (.imul, 1) := by decide +kernel
theorem dX12_secondsBy_19 : decode cX12_secondsBy 19 = .ok (.bipush 10, 2) := by decide +kernel
theorem dX12_secondsBy_21 : decode cX12_secondsBy 21 = .ok (.idiv, 1) := by decide +kernel
theorem dX12_secondsBy_22 : decode cX12_secondsBy 22 = .ok (.isub, 1) := by decide +kernel
theorem dX12_secondsBy_23 : decode cX12_secondsBy 23 = .ok (.goto 10, 3) := by decide +kernel
theorem dX12_secondsBy_26 : decode cX12_secondsBy 26 = .ok (.iload 5, 2) := by decide +kernel
theorem dX12_secondsBy_28 : decode cX12_secondsBy 28 = .ok (.iload 5, 2) := by decide +kernel
theorem dX12_secondsBy_30 : decode cX12_secondsBy 30 = .ok (.iconst 4, 1) := by decide +kernel
theorem dX12_secondsBy_31 : decode cX12_secondsBy 31 = .ok (.idiv, 1) := by decide +kernel
theorem dX12_secondsBy_32 : decode cX12_secondsBy 32 = .ok (.iadd, 1) := by decide +kernel
theorem dX12_secondsBy_33 : decode cX12_secondsBy 33 = .ok (.ireturn, 1) := by decide +kernel
theorem dX12_legsBehind_0 : decode cX12_legsBehind 0 = .ok (.iload_n 2, 1) := by decide +kernel
theorem dX12_legsBehind_1 : decode cX12_legsBehind 1 = .ok (.ifCond .le 27, 3) := by decide +kernel
theorem dX12_legsBehind_4 : decode cX12_legsBehind 4 = .ok (.iconst 0, 1) := by decide +kernel
theorem dX12_legsBehind_5 : decode cX12_legsBehind 5 = .ok (.iload_n 2, 1) := by decide +kernel
theorem dX12_legsBehind_6 : decode cX12_legsBehind 6 = .ok (.iload_n 3, 1) := by decide +kernel
theorem dX12_legsBehind_7 : decode cX12_legsBehind 7 = .ok (.aload_n 0, 1) := by decide +kernel
theorem dX12_legsBehind_8 : decode cX12_legsBehind 8 = .ok (.iload_n 1, 1) := by decide +kernel
theorem dX12_legsBehind_9 : decode cX12_legsBehind 9 = .ok (.invokestatic 81, 3) := by decide +kernel
theorem dX12_legsBehind_12 : decode cX12_legsBehind 12 = .ok (.imul, 1) := by decide +kernel
theorem dX12_legsBehind_13 : decode cX12_legsBehind 13 = .ok (.aload_n 0, 1) := by decide +kernel
theorem dX12_legsBehind_14 : decode cX12_legsBehind 14 = .ok (.iload_n 1, 1) := by decide +kernel
theorem dX12_legsBehind_15 : decode cX12_legsBehind 15 = .ok (.iconst 2, 1) := by decide +kernel
theorem dX12_legsBehind_16 : decode cX12_legsBehind 16 = .ok (.invokestatic 66, 3) := by decide +kernel
theorem dX12_legsBehind_19 : decode cX12_legsBehind 19 = .ok (.iaload, 1) := by decide +kernel
theorem dX12_legsBehind_20 : decode cX12_legsBehind 20 = .ok (.imul, 1) := by decide +kernel
theorem dX12_legsBehind_21 : decode cX12_legsBehind 21 = .ok (.isub, 1) := by decide +kernel
theorem dX12_legsBehind_22 : decode cX12_legsBehind 22 = .ok (.invokestatic 85, 3) := by decide +kernel
theorem dX12_legsBehind_25 : decode cX12_legsBehind 25 = .ok (.goto 4, 3) := by decide +kernel
theorem dX12_legsBehind_28 : decode cX12_legsBehind 28 = .ok (.iconst 0, 1) := by decide +kernel
theorem dX12_legsBehind_29 : decode cX12_legsBehind 29 = .ok (.istore 4, 2) := by decide +kernel
theorem dX12_legsBehind_31 : decode cX12_legsBehind 31 = .ok (.aload_n 0, 1) := by decide +kernel
theorem dX12_legsBehind_32 : decode cX12_legsBehind 32 = .ok (.iload_n 1, 1) := by decide +kernel
theorem dX12_legsBehind_33 : decode cX12_legsBehind 33 = .ok (.iconst 0, 1) := by decide +kernel
theorem dX12_legsBehind_34 : decode cX12_legsBehind 34 = .ok (.invokestatic 66, 3) := by decide +kernel
theorem dX12_legsBehind_37 : decode cX12_legsBehind 37 = .ok (.iaload, 1) := by decide +kernel
theorem dX12_legsBehind_38 : decode cX12_legsBehind 38 = .ok (.bipush 6, 2) := by decide +kernel
theorem dX12_legsBehind_40 : decode cX12_legsBehind 40 = .ok (.if_icmp .ne 15, 3) := by decide +kernel
theorem dX12_legsBehind_43 : decode cX12_legsBehind 43 = .ok (.bipush 99, 2) := by decide +kernel
theorem dX12_legsBehind_45 : decode cX12_legsBehind 45 = .ok (.iload 4, 2) := by decide +kernel
theorem dX12_legsBehind_47 : decode cX12_legsBehind 47 = .ok (.iconst 5, 1) := by decide +kernel
theorem dX12_legsBehind_48 : decode cX12_legsBehind 48 = .ok (.iadd, 1) := by decide +kernel
theorem dX12_legsBehind_49 : decode cX12_legsBehind 49 = .ok (.invokestatic 88, 3) := by decide +kernel
theorem dX12_legsBehind_52 : decode cX12_legsBehind 52 = .ok (.goto 5, 3) := by decide +kernel
theorem dX12_legsBehind_55 : decode cX12_legsBehind 55 = .ok (.iload 4, 2) := by decide +kernel
theorem dX12_legsBehind_57 : decode cX12_legsBehind 57 = .ok (.ireturn, 1) := by decide +kernel
theorem dX12_goes_0 : decode cX12_goes 0 = .ok (.aload_n 1, 1) := by decide +kernel
theorem dX12_goes_1 : decode cX12_goes 1 = .ok (.iload_n 2, 1) := by decide +kernel
theorem dX12_goes_2 : decode cX12_goes 2 = .ok (.iconst 3, 1) := by decide +kernel
theorem dX12_goes_3 : decode cX12_goes 3 = .ok (.invokestatic 70, 3) := by decide +kernel
theorem dX12_goes_6 : decode cX12_goes 6 = .ok (.iaload, 1) := by decide +kernel
theorem dX12_goes_7 : decode cX12_goes 7 = .ok (.istore 4, 2) := by decide +kernel
theorem dX12_goes_9 : decode cX12_goes 9 = .ok (.iconst 0, 1) := by decide +kernel
theorem dX12_goes_10 : decode cX12_goes 10 = .ok (.istore 5, 2) := by decide +kernel
theorem dX12_goes_12 : decode cX12_goes 12 = .ok (.iconst 0, 1) := by decide +kernel
theorem dX12_goes_13 : decode cX12_goes 13 = .ok (.istore 6, 2) := by decide +kernel
theorem dX12_goes_15 : decode cX12_goes 15 = .ok (.iload 6, 2) := by decide +kernel
theorem dX12_goes_17 : decode cX12_goes 17 = .ok (.aload_n 1, 1) := by decide +kernel
theorem dX12_goes_18 : decode cX12_goes 18 = .ok (.iconst 0, 1) := by decide +kernel
theorem dX12_goes_19 : decode cX12_goes 19 = .ok (.iaload, 1) := by decide +kernel
theorem dX12_goes_20 : decode cX12_goes 20 = .ok (.if_icmp .ge 99, 3) := by decide +kernel
theorem dX12_goes_23 : decode cX12_goes 23 = .ok (.aload_n 0, 1) := by decide +kernel
theorem dX12_goes_24 : decode cX12_goes 24 = .ok (.getfield 31, 3) := by decide +kernel
theorem dX12_goes_27 : decode cX12_goes 27 = .ok (.iload 6, 2) := by decide +kernel
theorem dX12_goes_29 : decode cX12_goes 29 = .ok (.aload_n 1, 1) := by decide +kernel
theorem dX12_goes_30 : decode cX12_goes 30 = .ok (.iload_n 2, 1) := by decide +kernel
theorem dX12_goes_31 : decode cX12_goes 31 = .ok (.iload 6, 2) := by decide +kernel
theorem dX12_goes_33 : decode cX12_goes 33 = .ok (.iload 4, 2) := by decide +kernel
theorem dX12_goes_35 : decode cX12_goes 35 = .ok (.aload_n 1, 1) := by decide +kernel
theorem dX12_goes_36 : decode cX12_goes 36 = .ok (.iload_n 2, 1) := by decide +kernel
theorem dX12_goes_37 : decode cX12_goes 37 = .ok (.iload 6, 2) := by decide +kernel
theorem dX12_goes_39 : decode cX12_goes 39 = .ok (.invokestatic 91, 3) := by decide +kernel
theorem dX12_goes_42 : decode cX12_goes 42 = .ok (.iaload, 1) := by decide +kernel
theorem dX12_goes_43 : decode cX12_goes 43 = .ok (.invokestatic 94, 3) := by decide +kernel
theorem dX12_goes_46 : decode cX12_goes 46 = .ok (.iastore, 1) := by decide +kernel
theorem dX12_goes_47 : decode cX12_goes 47 = .ok (.aload_n 1, 1) := by decide +kernel
theorem dX12_goes_48 : decode cX12_goes 48 = .ok (.iload 6, 2) := by decide +kernel
theorem dX12_goes_50 : decode cX12_goes 50 = .ok (.iload 4, 2) := by decide +kernel
theorem dX12_goes_52 : decode cX12_goes 52 = .ok (.aload_n 1, 1) := by decide +kernel
theorem dX12_goes_53 : decode cX12_goes 53 = .ok (.iload_n 2, 1) := by decide +kernel
theorem dX12_goes_54 : decode cX12_goes 54 = .ok (.iload 6, 2) := by decide +kernel
theorem dX12_goes_56 : decode cX12_goes 56 = .ok (.invokestatic 91, 3) := by decide +kernel
theorem dX12_goes_59 : decode cX12_goes 59 = .ok (.iaload, 1) := by decide +kernel
theorem dX12_goes_60 : decode cX12_goes 60 = .ok (.invokestatic 98, 3) := by decide +kernel
theorem dX12_goes_63 : decode cX12_goes 63 = .ok (.istore 4, 2) := by decide +kernel
theorem dX12_goes_65 : decode cX12_goes 65 = .ok (.iload 6, 2) := by decide +kernel
theorem dX12_goes_67 : decode cX12_goes 67 = .ok (.iload_n 3, 1) := by decide +kernel
theorem dX12_goes_68 : decode cX12_goes 68 = .ok (.if_icmp .ne 15, 3) := by decide +kernel
theorem dX12_goes_71 : decode cX12_goes 71 = .ok (.bipush 99, 2) := by decide +kernel
theorem dX12_goes_73 : decode cX12_goes 73 = .ok (.iload 4, 2) := by decide +kernel
theorem dX12_goes_75 : decode cX12_goes 75 = .ok (.bipush 20, 2) := by decide +kernel
theorem dX12_goes_77 : decode cX12_goes 77 = .ok (.iadd, 1) := by decide +kernel
theorem dX12_goes_78 : decode cX12_goes 78 = .ok (.invokestatic 88, 3) := by decide +kernel
theorem dX12_goes_81 : decode cX12_goes 81 = .ok (.istore 4, 2) := by decide +kernel
theorem dX12_goes_83 : decode cX12_goes 83 = .ok (.aload_n 0, 1) := by decide +kernel
theorem dX12_goes_84 : decode cX12_goes 84 = .ok (.getfield 34, 3) := by decide +kernel
theorem dX12_goes_87 : decode cX12_goes 87 = .ok (.iload 6, 2) := by decide +kernel
theorem dX12_goes_89 : decode cX12_goes 89 = .ok (.iload 4, 2) := by decide +kernel
theorem dX12_goes_91 : decode cX12_goes 91 = .ok (.iastore, 1) := by decide +kernel
theorem dX12_goes_92 : decode cX12_goes 92 = .ok (.iload 5, 2) := by decide +kernel
theorem dX12_goes_94 : decode cX12_goes 94 = .ok (.aload_n 0, 1) := by decide +kernel
theorem dX12_goes_95 : decode cX12_goes 95 = .ok (.getfield 31, 3) := by decide +kernel
theorem dX12_goes_98 : decode cX12_goes 98 = .ok (.iload 6, 2) := by decide +kernel
theorem dX12_goes_100 : decode cX12_goes 100 = .ok (.iaload, 1) := by decide +kernel
theorem dX12_goes_101 : decode cX12_goes 101 = .ok (.iadd, 1) := by decide +kernel
theorem dX12_goes_102 : decode cX12_goes 102 = .ok (.istore 5, 2) := by decide +kernel
theorem dX12_goes_104 : decode cX12_goes 104 = .ok (.aload_n 0, 1) := by decide +kernel
theorem dX12_goes_105 : decode cX12_goes 105 = .ok (.getfield 37, 3) := by decide +kernel
theorem dX12_goes_108 : decode cX12_goes 108 = .ok (.iload 6, 2) := by decide +kernel
theorem dX12_goes_110 : decode cX12_goes 110 = .ok (.iload 5, 2) := by decide +kernel
theorem dX12_goes_112 : decode cX12_goes 112 = .ok (.iastore, 1) := by decide +kernel
theorem dX12_goes_113 : decode cX12_goes 113 = .ok (.iinc 6 1, 3) := by decide +kernel
theorem dX12_goes_116 : decode cX12_goes 116 = .ok (.goto (-101), 3) := by decide +kernel
theorem dX12_goes_119 : decode cX12_goes 119 = .ok (.iload 5, 2) := by decide +kernel
theorem dX12_goes_121 : decode cX12_goes 121 = .ok (.ireturn, 1) := by decide +kernel
theorem dX12_finishOf_0 : decode cX12_finishOf 0 = .ok (.aload_n 0, 1) := by decide +kernel
theorem dX12_finishOf_1 : decode cX12_finishOf 1 = .ok (.aload_n 1, 1) := by decide +kernel
theorem dX12_finishOf_2 : decode cX12_finishOf 2 = .ok (.iload_n 2, 1) := by decide +kernel
theorem dX12_finishOf_3 : decode cX12_finishOf 3 = .ok (.iconst (-1), 1) := by decide +kernel
theorem dX12_finishOf_4 : decode cX12_finishOf 4 = .ok (.invokevirtual 102, 3) := by decide +kernel
theorem dX12_finishOf_7 : decode cX12_finishOf 7 = .ok (.ireturn, 1) := by decide +kernel
theorem dX12_letter_0 : decode cX12_letter 0 = .ok (.iload_n 1, 1) := by decide +kernel
theorem dX12_letter_1 : decode cX12_letter 1 = .ok (.ifCond .ge 10, 3) := by decide +kernel
theorem dX12_letter_4 : decode cX12_letter 4 = .ok (.aload_n 0, 1) := by decide +kernel
theorem dX12_letter_5 : decode cX12_letter 5 = .ok (.bipush (-4), 2) := by decide +kernel
theorem dX12_letter_7 : decode cX12_letter 7 = .ok (.invokevirtual 56, 3) := by decide +kernel
theorem dX12_letter_10 : decode cX12_letter 10 = .ok (.ireturn, 1) := by decide +kernel
theorem dX12_letter_11 : decode cX12_letter 11 = .ok (.iload_n 1, 1) := by decide +kernel
theorem dX12_letter_12 : decode cX12_letter 12 = .ok (.sipush 255, 3) := by decide +kernel
theorem dX12_letter_15 : decode cX12_letter 15 = .ok (.if_icmp .gt 12, 3) := by decide +kernel
theorem dX12_letter_18 : decode cX12_letter 18 = .ok (.aload_n 0, 1) := by decide +kernel
theorem dX12_letter_19 : decode cX12_letter 19 = .ok (.getfield 105, 3) := by decide +kernel
theorem dX12_letter_22 : decode cX12_letter 22 = .ok (.bipush 96, 2) := by decide +kernel
theorem dX12_letter_24 : decode cX12_letter 24 = .ok (.if_icmp .ne 10, 3) := by decide +kernel
theorem dX12_letter_27 : decode cX12_letter 27 = .ok (.aload_n 0, 1) := by decide +kernel
theorem dX12_letter_28 : decode cX12_letter 28 = .ok (.bipush (-6), 2) := by decide +kernel
theorem dX12_letter_30 : decode cX12_letter 30 = .ok (.invokevirtual 56, 3) := by decide +kernel
theorem dX12_letter_33 : decode cX12_letter 33 = .ok (.ireturn, 1) := by decide +kernel
theorem dX12_letter_34 : decode cX12_letter 34 = .ok (.aload_n 0, 1) := by decide +kernel
theorem dX12_letter_35 : decode cX12_letter 35 = .ok (.getfield 22, 3) := by decide +kernel
theorem dX12_letter_38 : decode cX12_letter 38 = .ok (.aload_n 0, 1) := by decide +kernel
theorem dX12_letter_39 : decode cX12_letter 39 = .ok (.getfield 105, 3) := by decide +kernel
theorem dX12_letter_42 : decode cX12_letter 42 = .ok (.iload_n 1, 1) := by decide +kernel
theorem dX12_letter_43 : decode cX12_letter 43 = .ok (.iastore, 1) := by decide +kernel
theorem dX12_letter_44 : decode cX12_letter 44 = .ok (.aload_n 0, 1) := by decide +kernel
theorem dX12_letter_45 : decode cX12_letter 45 = .ok (.dup, 1) := by decide +kernel
theorem dX12_letter_46 : decode cX12_letter 46 = .ok (.getfield 105, 3) := by decide +kernel
theorem dX12_letter_49 : decode cX12_letter 49 = .ok (.iconst 1, 1) := by decide +kernel
theorem dX12_letter_50 : decode cX12_letter 50 = .ok (.iadd, 1) := by decide +kernel
theorem dX12_letter_51 : decode cX12_letter 51 = .ok (.putfield 105, 3) := by decide +kernel
theorem dX12_letter_54 : decode cX12_letter 54 = .ok (.aload_n 0, 1) := by decide +kernel
theorem dX12_letter_55 : decode cX12_letter 55 = .ok (.getfield 105, 3) := by decide +kernel
theorem dX12_letter_58 : decode cX12_letter 58 = .ok (.ireturn, 1) := by decide +kernel
theorem dX12_here_0 : decode cX12_here 0 = .ok (.aload_n 0, 1) := by decide +kernel
theorem dX12_here_1 : decode cX12_here 1 = .ok (.getfield 109, 3) := by decide +kernel
theorem dX12_here_4 : decode cX12_here 4 = .ok (.aload_n 0, 1) := by decide +kernel
theorem dX12_here_5 : decode cX12_here 5 = .ok (.getfield 105, 3) := by decide +kernel
theorem dX12_here_8 : decode cX12_here 8 = .ok (.if_icmp .ge 15, 3) := by decide +kernel
theorem dX12_here_11 : decode cX12_here 11 = .ok (.aload_n 0, 1) := by decide +kernel
theorem dX12_here_12 : decode cX12_here 12 = .ok (.getfield 22, 3) := by decide +kernel
theorem dX12_here_15 : decode cX12_here 15 = .ok (.aload_n 0, 1) := by decide +kernel
theorem dX12_here_16 : decode cX12_here 16 = .ok (.getfield 109, 3) := by decide +kernel
theorem dX12_here_19 : decode cX12_here 19 = .ok (.iaload, 1) := by decide +kernel
theorem dX12_here_20 : decode cX12_here 20 = .ok (.goto 4, 3) := by decide +kernel
theorem dX12_here_23 : decode cX12_here 23 = .ok (.iconst (-1), 1) := by decide +kernel
theorem dX12_here_24 : decode cX12_here 24 = .ok (.ireturn, 1) := by decide +kernel
theorem dX12_readsDigit_0 : decode cX12_readsDigit 0 = .ok (.aload_n 0, 1) := by decide +kernel
theorem dX12_readsDigit_1 : decode cX12_readsDigit 1 = .ok (.invokevirtual 112, 3) := by decide +kernel
theorem dX12_readsDigit_4 : decode cX12_readsDigit 4 = .ok (.bipush 48, 2) := by decide +kernel
theorem dX12_readsDigit_6 : decode cX12_readsDigit 6 = .ok (.bipush 57, 2) := by decide +kernel
theorem dX12_readsDigit_8 : decode cX12_readsDigit 8 = .ok (.invokestatic 62, 3) := by decide +kernel
theorem dX12_readsDigit_11 : decode cX12_readsDigit 11 = .ok (.ifCond .ne 5, 3) := by decide +kernel
theorem dX12_readsDigit_14 : decode cX12_readsDigit 14 = .ok (.iconst 0, 1) := by decide +kernel
theorem dX12_readsDigit_15 : decode cX12_readsDigit 15 = .ok (.ireturn, 1) := by decide +kernel
theorem dX12_readsDigit_16 : decode cX12_readsDigit 16 = .ok (.aload_n 0, 1) := by decide +kernel
theorem dX12_readsDigit_17 : decode cX12_readsDigit 17 = .ok (.getfield 40, 3) := by decide +kernel
theorem dX12_readsDigit_20 : decode cX12_readsDigit 20 = .ok (.aload_n 0, 1) := by decide +kernel
theorem dX12_readsDigit_21 : decode cX12_readsDigit 21 = .ok (.getfield 116, 3) := by decide +kernel
theorem dX12_readsDigit_24 : decode cX12_readsDigit 24 = .ok (.aload_n 0, 1) := by decide +kernel
theorem dX12_readsDigit_25 : decode cX12_readsDigit 25 = .ok (.invokevirtual 112, 3) := by decide +kernel
theorem dX12_readsDigit_28 : decode cX12_readsDigit 28 = .ok (.bipush 48, 2) := by decide +kernel
theorem dX12_readsDigit_30 : decode cX12_readsDigit 30 = .ok (.isub, 1) := by decide +kernel
theorem dX12_readsDigit_31 : decode cX12_readsDigit 31 = .ok (.iastore, 1) := by decide +kernel
theorem dX12_readsDigit_32 : decode cX12_readsDigit 32 = .ok (.aload_n 0, 1) := by decide +kernel
theorem dX12_readsDigit_33 : decode cX12_readsDigit 33 = .ok (.dup, 1) := by decide +kernel
theorem dX12_readsDigit_34 : decode cX12_readsDigit 34 = .ok (.getfield 116, 3) := by decide +kernel
theorem dX12_readsDigit_37 : decode cX12_readsDigit 37 = .ok (.iconst 1, 1) := by decide +kernel
theorem dX12_readsDigit_38 : decode cX12_readsDigit 38 = .ok (.iadd, 1) := by decide +kernel
theorem dX12_readsDigit_39 : decode cX12_readsDigit 39 = .ok (.putfield 116, 3) := by decide +kernel
theorem dX12_readsDigit_42 : decode cX12_readsDigit 42 = .ok (.aload_n 0, 1) := by decide +kernel
theorem dX12_readsDigit_43 : decode cX12_readsDigit 43 = .ok (.dup, 1) := by decide +kernel
theorem dX12_readsDigit_44 : decode cX12_readsDigit 44 = .ok (.getfield 109, 3) := by decide +kernel
theorem dX12_readsDigit_47 : decode cX12_readsDigit 47 = .ok (.iconst 1, 1) := by decide +kernel
theorem dX12_readsDigit_48 : decode cX12_readsDigit 48 = .ok (.iadd, 1) := by decide +kernel
theorem dX12_readsDigit_49 : decode cX12_readsDigit 49 = .ok (.putfield 109, 3) := by decide +kernel
theorem dX12_readsDigit_52 : decode cX12_readsDigit 52 = .ok (.iconst 1, 1) := by decide +kernel
theorem dX12_readsDigit_53 : decode cX12_readsDigit 53 = .ok (.ireturn, 1) := by decide +kernel
theorem dX12_readsDigits_0 : decode cX12_readsDigits 0 = .ok (.iconst 1, 1) := by decide +kernel
theorem dX12_readsDigits_1 : decode cX12_readsDigits 1 = .ok (.istore_n 2, 1) := by decide +kernel
theorem dX12_readsDigits_2 : decode cX12_readsDigits 2 = .ok (.iconst 0, 1) := by decide +kernel
theorem dX12_readsDigits_3 : decode cX12_readsDigits 3 = .ok (.istore_n 3, 1) := by decide +kernel
theorem dX12_readsDigits_4 : decode cX12_readsDigits 4 = .ok (.iload_n 3, 1) := by decide +kernel
theorem dX12_readsDigits_5 : decode cX12_readsDigits 5 = .ok (.iload_n 1, 1) := by decide +kernel
theorem dX12_readsDigits_6 : decode cX12_readsDigits 6 = .ok (.if_icmp .ge 18, 3) := by decide +kernel
theorem dX12_readsDigits_9 : decode cX12_readsDigits 9 = .ok (.iload_n 2, 1) := by decide +kernel
theorem dX12_readsDigits_10 : decode cX12_readsDigits 10 = .ok (.ifCond .eq 14, 3) := by decide +kernel
theorem dX12_readsDigits_13 : decode cX12_readsDigits 13 = .ok (.aload_n 0, 1) := by decide +kernel
theorem dX12_readsDigits_14 : decode cX12_readsDigits 14 = .ok (.invokevirtual 119, 3) := by decide +kernel
theorem dX12_readsDigits_17 : decode cX12_readsDigits 17 = .ok (.istore_n 2, 1) := by decide +kernel
theorem dX12_readsDigits_18 : decode cX12_readsDigits 18 = .ok (.iinc 3 1, 3) := by decide +kernel
theorem dX12_readsDigits_21 : decode cX12_readsDigits 21 = .ok (.goto (-17), 3) := by decide +kernel
theorem dX12_readsDigits_24 : decode cX12_readsDigits 24 = .ok (.iload_n 2, 1) := by decide +kernel
theorem dX12_readsDigits_25 : decode cX12_readsDigits 25 = .ok (.ireturn, 1) := by decide +kernel
theorem dX12_kindBy_0 : decode cX12_kindBy 0 = .ok (.iload_n 0, 1) := by decide +kernel
theorem dX12_kindBy_1 : decode cX12_kindBy 1 = .ok (.tableswitch 114 99 119 #[111, 101, 114, 109, 114, 105, 114, 114, 114, 114, 114, 114, 114, 114, 114, 103, 99, 114, 114, 114, 107], 99) := by decide +kernel
theorem dX12_kindBy_100 : decode cX12_kindBy 100 = .ok (.iconst 0, 1) := by decide +kernel
theorem dX12_kindBy_101 : decode cX12_kindBy 101 = .ok (.ireturn, 1) := by decide +kernel
theorem dX12_kindBy_102 : decode cX12_kindBy 102 = .ok (.iconst 1, 1) := by decide +kernel
theorem dX12_kindBy_103 : decode cX12_kindBy 103 = .ok (.ireturn, 1) := by decide +kernel
theorem dX12_kindBy_104 : decode cX12_kindBy 104 = .ok (.iconst 2, 1) := by decide +kernel
theorem dX12_kindBy_105 : decode cX12_kindBy 105 = .ok (.ireturn, 1) := by decide +kernel
theorem dX12_kindBy_106 : decode cX12_kindBy 106 = .ok (.iconst 3, 1) := by decide +kernel
theorem dX12_kindBy_107 : decode cX12_kindBy 107 = .ok (.ireturn, 1) := by decide +kernel
theorem dX12_kindBy_108 : decode cX12_kindBy 108 = .ok (.iconst 4, 1) := by decide +kernel
theorem dX12_kindBy_109 : decode cX12_kindBy 109 = .ok (.ireturn, 1) := by decide +kernel
theorem dX12_kindBy_110 : decode cX12_kindBy 110 = .ok (.iconst 5, 1) := by decide +kernel
theorem dX12_kindBy_111 : decode cX12_kindBy 111 = .ok (.ireturn, 1) := by decide +kernel
theorem dX12_kindBy_112 : decode cX12_kindBy 112 = .ok (.bipush 6, 2) := by decide +kernel
theorem dX12_kindBy_114 : decode cX12_kindBy 114 = .ok (.ireturn, 1) := by decide +kernel
theorem dX12_kindBy_115 : decode cX12_kindBy 115 = .ok (.bipush (-9), 2) := by decide +kernel
theorem dX12_kindBy_117 : decode cX12_kindBy 117 = .ok (.ireturn, 1) := by decide +kernel
theorem dX12_readsKind_0 : decode cX12_readsKind 0 = .ok (.aload_n 0, 1) := by decide +kernel
theorem dX12_readsKind_1 : decode cX12_readsKind 1 = .ok (.invokevirtual 112, 3) := by decide +kernel
theorem dX12_readsKind_4 : decode cX12_readsKind 4 = .ok (.invokestatic 123, 3) := by decide +kernel
theorem dX12_readsKind_7 : decode cX12_readsKind 7 = .ok (.istore_n 1, 1) := by decide +kernel
theorem dX12_readsKind_8 : decode cX12_readsKind 8 = .ok (.iload_n 1, 1) := by decide +kernel
theorem dX12_readsKind_9 : decode cX12_readsKind 9 = .ok (.ifCond .ge 5, 3) := by decide +kernel
theorem dX12_readsKind_12 : decode cX12_readsKind 12 = .ok (.iconst 0, 1) := by decide +kernel
theorem dX12_readsKind_13 : decode cX12_readsKind 13 = .ok (.ireturn, 1) := by decide +kernel
theorem dX12_readsKind_14 : decode cX12_readsKind 14 = .ok (.aload_n 0, 1) := by decide +kernel
theorem dX12_readsKind_15 : decode cX12_readsKind 15 = .ok (.getfield 40, 3) := by decide +kernel
theorem dX12_readsKind_18 : decode cX12_readsKind 18 = .ok (.iconst 0, 1) := by decide +kernel
theorem dX12_readsKind_19 : decode cX12_readsKind 19 = .ok (.iload_n 1, 1) := by decide +kernel
theorem dX12_readsKind_20 : decode cX12_readsKind 20 = .ok (.iastore, 1) := by decide +kernel
theorem dX12_readsKind_21 : decode cX12_readsKind 21 = .ok (.aload_n 0, 1) := by decide +kernel
theorem dX12_readsKind_22 : decode cX12_readsKind 22 = .ok (.iconst 1, 1) := by decide +kernel
theorem dX12_readsKind_23 : decode cX12_readsKind 23 = .ok (.putfield 116, 3) := by decide +kernel
theorem dX12_readsKind_26 : decode cX12_readsKind 26 = .ok (.aload_n 0, 1) := by decide +kernel
theorem dX12_readsKind_27 : decode cX12_readsKind 27 = .ok (.dup, 1) := by decide +kernel
theorem dX12_readsKind_28 : decode cX12_readsKind 28 = .ok (.getfield 109, 3) := by decide +kernel
theorem dX12_readsKind_31 : decode cX12_readsKind 31 = .ok (.iconst 1, 1) := by decide +kernel
theorem dX12_readsKind_32 : decode cX12_readsKind 32 = .ok (.iadd, 1) := by decide +kernel
theorem dX12_readsKind_33 : decode cX12_readsKind 33 = .ok (.putfield 109, 3) := by decide +kernel
theorem dX12_readsKind_36 : decode cX12_readsKind 36 = .ok (.iconst 1, 1) := by decide +kernel
theorem dX12_readsKind_37 : decode cX12_readsKind 37 = .ok (.ireturn, 1) := by decide +kernel
theorem dX12_readsPlan_0 : decode cX12_readsPlan 0 = .ok (.aload_n 0, 1) := by decide +kernel
theorem dX12_readsPlan_1 : decode cX12_readsPlan 1 = .ok (.iconst 2, 1) := by decide +kernel
theorem dX12_readsPlan_2 : decode cX12_readsPlan 2 = .ok (.invokevirtual 126, 3) := by decide +kernel
theorem dX12_readsPlan_5 : decode cX12_readsPlan 5 = .ok (.ifCond .ne 5, 3) := by decide +kernel
theorem dX12_readsPlan_8 : decode cX12_readsPlan 8 = .ok (.iconst 0, 1) := by decide +kernel
theorem dX12_readsPlan_9 : decode cX12_readsPlan 9 = .ok (.ireturn, 1) := by decide +kernel
theorem dX12_readsPlan_10 : decode cX12_readsPlan 10 = .ok (.iconst 1, 1) := by decide +kernel
theorem dX12_readsPlan_11 : decode cX12_readsPlan 11 = .ok (.istore_n 1, 1) := by decide +kernel
theorem dX12_readsPlan_12 : decode cX12_readsPlan 12 = .ok (.iload_n 1, 1) := by decide +kernel
theorem dX12_readsPlan_13 : decode cX12_readsPlan 13 = .ok (.bipush 9, 2) := by decide +kernel
theorem dX12_readsPlan_15 : decode cX12_readsPlan 15 = .ok (.if_icmp .ge 32, 3) := by decide +kernel
theorem dX12_readsPlan_18 : decode cX12_readsPlan 18 = .ok (.aload_n 0, 1) := by decide +kernel
theorem dX12_readsPlan_19 : decode cX12_readsPlan 19 = .ok (.invokevirtual 112, 3) := by decide +kernel
theorem dX12_readsPlan_22 : decode cX12_readsPlan 22 = .ok (.bipush 48, 2) := by decide +kernel
theorem dX12_readsPlan_24 : decode cX12_readsPlan 24 = .ok (.bipush 57, 2) := by decide +kernel
theorem dX12_readsPlan_26 : decode cX12_readsPlan 26 = .ok (.invokestatic 62, 3) := by decide +kernel
theorem dX12_readsPlan_29 : decode cX12_readsPlan 29 = .ok (.ifCond .eq 18, 3) := by decide +kernel
theorem dX12_readsPlan_32 : decode cX12_readsPlan 32 = .ok (.aload_n 0, 1) := by decide +kernel
theorem dX12_readsPlan_33 : decode cX12_readsPlan 33 = .ok (.invokevirtual 119, 3) := by decide +kernel
theorem dX12_readsPlan_36 : decode cX12_readsPlan 36 = .ok (.ifCond .ne 5, 3) := by decide +kernel
theorem dX12_readsPlan_39 : decode cX12_readsPlan 39 = .ok (.iconst 0, 1) := by decide +kernel
theorem dX12_readsPlan_40 : decode cX12_readsPlan 40 = .ok (.ireturn, 1) := by decide +kernel
theorem dX12_readsPlan_41 : decode cX12_readsPlan 41 = .ok (.iinc 1 1, 3) := by decide +kernel
theorem dX12_readsPlan_44 : decode cX12_readsPlan 44 = .ok (.goto (-32), 3) := by decide +kernel
theorem dX12_readsPlan_47 : decode cX12_readsPlan 47 = .ok (.iconst 1, 1) := by decide +kernel
theorem dX12_readsPlan_48 : decode cX12_readsPlan 48 = .ok (.ireturn, 1) := by decide +kernel
theorem dX12_readsStatement_0 : decode cX12_readsStatement 0 = .ok (.aload_n 0, 1) := by decide +kernel
theorem dX12_readsStatement_1 : decode cX12_readsStatement 1 = .ok (.invokevirtual 112, 3) := by decide +kernel
theorem dX12_readsStatement_4 : decode cX12_readsStatement 4 = .ok (.istore_n 1, 1) := by decide +kernel
theorem dX12_readsStatement_5 : decode cX12_readsStatement 5 = .ok (.aload_n 0, 1) := by decide +kernel
theorem dX12_readsStatement_6 : decode cX12_readsStatement 6 = .ok (.dup, 1) := by decide +kernel
theorem dX12_readsStatement_7 : decode cX12_readsStatement 7 = .ok (.getfield 109, 3) := by decide +kernel
theorem dX12_readsStatement_10 : decode cX12_readsStatement 10 = .ok (.iconst 1, 1) := by decide +kernel
theorem dX12_readsStatement_11 : decode cX12_readsStatement 11 = .ok (.iadd, 1) := by decide +kernel
theorem dX12_readsStatement_12 : decode cX12_readsStatement 12 = .ok (.putfield 109, 3) := by decide +kernel
theorem dX12_readsStatement_15 : decode cX12_readsStatement 15 = .ok (.aload_n 0, 1) := by decide +kernel
theorem dX12_readsStatement_16 : decode cX12_readsStatement 16 = .ok (.iconst 0, 1) := by decide +kernel
theorem dX12_readsStatement_17 : decode cX12_readsStatement 17 = .ok (.putfield 116, 3) := by decide +kernel
theorem dX12_readsStatement_20 : decode cX12_readsStatement 20 = .ok (.iload_n 1, 1) := by decide +kernel
theorem dX12_readsStatement_21 : decode cX12_readsStatement 21 = .ok (.lookupswitch 110 #[(97, 75), (112, 93), (115, 51), (116, 84), (120, 101)], 51) := by decide +kernel
theorem dX12_readsStatement_72 : decode cX12_readsStatement 72 = .ok (.aload_n 0, 1) := by decide +kernel
theorem dX12_readsStatement_73 : decode cX12_readsStatement 73 = .ok (.invokevirtual 130, 3) := by decide +kernel
theorem dX12_readsStatement_76 : decode cX12_readsStatement 76 = .ok (.ifCond .eq 15, 3) := by decide +kernel
theorem dX12_readsStatement_79 : decode cX12_readsStatement 79 = .ok (.aload_n 0, 1) := by decide +kernel
theorem dX12_readsStatement_80 : decode cX12_readsStatement 80 = .ok (.iconst 2, 1) := by decide +kernel
theorem dX12_readsStatement_81 : decode cX12_readsStatement 81 = .ok (.invokevirtual 126, 3) := by decide +kernel
theorem dX12_readsStatement_84 : decode cX12_readsStatement 84 = .ok (.ifCond .eq 7, 3) := by decide +kernel
theorem dX12_readsStatement_87 : decode cX12_readsStatement 87 = .ok (.iconst 1, 1) := by decide +kernel
theorem dX12_readsStatement_88 : decode cX12_readsStatement 88 = .ok (.goto 4, 3) := by decide +kernel
theorem dX12_readsStatement_91 : decode cX12_readsStatement 91 = .ok (.iconst 0, 1) := by decide +kernel
theorem dX12_readsStatement_92 : decode cX12_readsStatement 92 = .ok (.istore_n 2, 1) := by decide +kernel
theorem dX12_readsStatement_93 : decode cX12_readsStatement 93 = .ok (.goto 50, 3) := by decide +kernel
theorem dX12_readsStatement_96 : decode cX12_readsStatement 96 = .ok (.aload_n 0, 1) := by decide +kernel
theorem dX12_readsStatement_97 : decode cX12_readsStatement 97 = .ok (.iconst 5, 1) := by decide +kernel
theorem dX12_readsStatement_98 : decode cX12_readsStatement 98 = .ok (.invokevirtual 126, 3) := by decide +kernel
theorem dX12_readsStatement_101 : decode cX12_readsStatement 101 = .ok (.istore_n 2, 1) := by decide +kernel
theorem dX12_readsStatement_102 : decode cX12_readsStatement 102 = .ok (.goto 41, 3) := by decide +kernel
theorem dX12_readsStatement_105 : decode cX12_readsStatement 105 = .ok (.aload_n 0, 1) := by decide +kernel
theorem dX12_readsStatement_106 : decode cX12_readsStatement 106 = .ok (.iconst 3, 1) := by decide +kernel
theorem dX12_readsStatement_107 : decode cX12_readsStatement 107 = .ok (.invokevirtual 126, 3) := by decide +kernel
theorem dX12_readsStatement_110 : decode cX12_readsStatement 110 = .ok (.istore_n 2, 1) := by decide +kernel
theorem dX12_readsStatement_111 : decode cX12_readsStatement 111 = .ok (.goto 32, 3) := by decide +kernel
theorem dX12_readsStatement_114 : decode cX12_readsStatement 114 = .ok (.aload_n 0, 1) := by decide +kernel
theorem dX12_readsStatement_115 : decode cX12_readsStatement 115 = .ok (.invokevirtual 133, 3) := by decide +kernel
theorem dX12_readsStatement_118 : decode cX12_readsStatement 118 = .ok (.istore_n 2, 1) := by decide +kernel
theorem dX12_readsStatement_119 : decode cX12_readsStatement 119 = .ok (.goto 24, 3) := by decide +kernel
theorem dX12_readsStatement_122 : decode cX12_readsStatement 122 = .ok (.aload_n 0, 1) := by decide +kernel
theorem dX12_readsStatement_123 : decode cX12_readsStatement 123 = .ok (.iconst 2, 1) := by decide +kernel
theorem dX12_readsStatement_124 : decode cX12_readsStatement 124 = .ok (.invokevirtual 126, 3) := by decide +kernel
theorem dX12_readsStatement_127 : decode cX12_readsStatement 127 = .ok (.istore_n 2, 1) := by decide +kernel
theorem dX12_readsStatement_128 : decode cX12_readsStatement 128 = .ok (.goto 15, 3) := by decide +kernel
theorem dX12_readsStatement_131 : decode cX12_readsStatement 131 = .ok (.aload_n 0, 1) := by decide +kernel
theorem dX12_readsStatement_132 : decode cX12_readsStatement 132 = .ok (.dup, 1) := by decide +kernel
theorem dX12_readsStatement_133 : decode cX12_readsStatement 133 = .ok (.getfield 109, 3) := by decide +kernel
theorem dX12_readsStatement_136 : decode cX12_readsStatement 136 = .ok (.iconst 1, 1) := by decide +kernel
theorem dX12_readsStatement_137 : decode cX12_readsStatement 137 = .ok (.isub, 1) := by decide +kernel
theorem dX12_readsStatement_138 : decode cX12_readsStatement 138 = .ok (.putfield 109, 3) := by decide +kernel
theorem dX12_readsStatement_141 : decode cX12_readsStatement 141 = .ok (.iconst 0, 1) := by decide +kernel
theorem dX12_readsStatement_142 : decode cX12_readsStatement 142 = .ok (.ireturn, 1) := by decide +kernel
theorem dX12_readsStatement_143 : decode cX12_readsStatement 143 = .ok (.iload_n 2, 1) := by decide +kernel
theorem dX12_readsStatement_144 : decode cX12_readsStatement 144 = .ok (.ifCond .eq 12, 3) := by decide +kernel
theorem dX12_readsStatement_147 : decode cX12_readsStatement 147 = .ok (.aload_n 0, 1) := by decide +kernel
theorem dX12_readsStatement_148 : decode cX12_readsStatement 148 = .ok (.invokevirtual 112, 3) := by decide +kernel
theorem dX12_readsStatement_151 : decode cX12_readsStatement 151 = .ok (.bipush 59, 2) := by decide +kernel
theorem dX12_readsStatement_153 : decode cX12_readsStatement 153 = .ok (.if_icmp .eq 5, 3) := by decide +kernel
theorem dX12_readsStatement_156 : decode cX12_readsStatement 156 = .ok (.iconst 0, 1) := by decide +kernel
theorem dX12_readsStatement_157 : decode cX12_readsStatement 157 = .ok (.ireturn, 1) := by decide +kernel
theorem dX12_readsStatement_158 : decode cX12_readsStatement 158 = .ok (.aload_n 0, 1) := by decide +kernel
theorem dX12_readsStatement_159 : decode cX12_readsStatement 159 = .ok (.dup, 1) := by decide +kernel
theorem dX12_readsStatement_160 : decode cX12_readsStatement 160 = .ok (.getfield 109, 3) := by decide +kernel
theorem dX12_readsStatement_163 : decode cX12_readsStatement 163 = .ok (.iconst 1, 1) := by decide +kernel
theorem dX12_readsStatement_164 : decode cX12_readsStatement 164 = .ok (.iadd, 1) := by decide +kernel
theorem dX12_readsStatement_165 : decode cX12_readsStatement 165 = .ok (.putfield 109, 3) := by decide +kernel
theorem dX12_readsStatement_168 : decode cX12_readsStatement 168 = .ok (.iconst 1, 1) := by decide +kernel
theorem dX12_readsStatement_169 : decode cX12_readsStatement 169 = .ok (.ireturn, 1) := by decide +kernel
theorem dX12_changes_0 : decode cX12_changes 0 = .ok (.iconst 0, 1) := by decide +kernel
theorem dX12_changes_1 : decode cX12_changes 1 = .ok (.istore 4, 2) := by decide +kernel
theorem dX12_changes_3 : decode cX12_changes 3 = .ok (.iload 4, 2) := by decide +kernel
theorem dX12_changes_5 : decode cX12_changes 5 = .ok (.iconst 3, 1) := by decide +kernel
theorem dX12_changes_6 : decode cX12_changes 6 = .ok (.if_icmp .ge 45, 3) := by decide +kernel
theorem dX12_changes_9 : decode cX12_changes 9 = .ok (.aload_n 3, 1) := by decide +kernel
theorem dX12_changes_10 : decode cX12_changes 10 = .ok (.iload_n 1, 1) := by decide +kernel
theorem dX12_changes_11 : decode cX12_changes 11 = .ok (.iload 4, 2) := by decide +kernel
theorem dX12_changes_13 : decode cX12_changes 13 = .ok (.invokestatic 66, 3) := by decide +kernel
theorem dX12_changes_16 : decode cX12_changes 16 = .ok (.iaload, 1) := by decide +kernel
theorem dX12_changes_17 : decode cX12_changes 17 = .ok (.istore 5, 2) := by decide +kernel
theorem dX12_changes_19 : decode cX12_changes 19 = .ok (.aload_n 3, 1) := by decide +kernel
theorem dX12_changes_20 : decode cX12_changes 20 = .ok (.iload_n 1, 1) := by decide +kernel
theorem dX12_changes_21 : decode cX12_changes 21 = .ok (.iload 4, 2) := by decide +kernel
theorem dX12_changes_23 : decode cX12_changes 23 = .ok (.invokestatic 66, 3) := by decide +kernel
theorem dX12_changes_26 : decode cX12_changes 26 = .ok (.aload_n 3, 1) := by decide +kernel
theorem dX12_changes_27 : decode cX12_changes 27 = .ok (.iload_n 2, 1) := by decide +kernel
theorem dX12_changes_28 : decode cX12_changes 28 = .ok (.iload 4, 2) := by decide +kernel
theorem dX12_changes_30 : decode cX12_changes 30 = .ok (.invokestatic 66, 3) := by decide +kernel
theorem dX12_changes_33 : decode cX12_changes 33 = .ok (.iaload, 1) := by decide +kernel
theorem dX12_changes_34 : decode cX12_changes 34 = .ok (.iastore, 1) := by decide +kernel
theorem dX12_changes_35 : decode cX12_changes 35 = .ok (.aload_n 3, 1) := by decide +kernel
theorem dX12_changes_36 : decode cX12_changes 36 = .ok (.iload_n 2, 1) := by decide +kernel
theorem dX12_changes_37 : decode cX12_changes 37 = .ok (.iload 4, 2) := by decide +kernel
theorem dX12_changes_39 : decode cX12_changes 39 = .ok (.invokestatic 66, 3) := by decide +kernel
theorem dX12_changes_42 : decode cX12_changes 42 = .ok (.iload 5, 2) := by decide +kernel
theorem dX12_changes_44 : decode cX12_changes 44 = .ok (.iastore, 1) := by decide +kernel
theorem dX12_changes_45 : decode cX12_changes 45 = .ok (.iinc 4 1, 3) := by decide +kernel
theorem dX12_changes_48 : decode cX12_changes 48 = .ok (.goto (-45), 3) := by decide +kernel
theorem dX12_changes_51 : decode cX12_changes 51 = .ok (.return_, 1) := by decide +kernel
theorem dX12_isDone_0 : decode cX12_isDone 0 = .ok (.aload_n 0, 1) := by decide +kernel
theorem dX12_isDone_1 : decode cX12_isDone 1 = .ok (.getfield 40, 3) := by decide +kernel
theorem dX12_isDone_4 : decode cX12_isDone 4 = .ok (.iconst 0, 1) := by decide +kernel
theorem dX12_isDone_5 : decode cX12_isDone 5 = .ok (.iaload, 1) := by decide +kernel
theorem dX12_isDone_6 : decode cX12_isDone 6 = .ok (.istore_n 2, 1) := by decide +kernel
theorem dX12_isDone_7 : decode cX12_isDone 7 = .ok (.aload_n 0, 1) := by decide +kernel
theorem dX12_isDone_8 : decode cX12_isDone 8 = .ok (.getfield 40, 3) := by decide +kernel
theorem dX12_isDone_11 : decode cX12_isDone 11 = .ok (.iconst 1, 1) := by decide +kernel
theorem dX12_isDone_12 : decode cX12_isDone 12 = .ok (.iaload, 1) := by decide +kernel
theorem dX12_isDone_13 : decode cX12_isDone 13 = .ok (.istore_n 3, 1) := by decide +kernel
theorem dX12_isDone_14 : decode cX12_isDone 14 = .ok (.iload_n 1, 1) := by decide +kernel
theorem dX12_isDone_15 : decode cX12_isDone 15 = .ok (.lookupswitch 349 #[(97, 114), (112, 286), (115, 41), (116, 240)], 41) := by decide +kernel
theorem dX12_isDone_56 : decode cX12_isDone 56 = .ok (.aload_n 0, 1) := by decide +kernel
theorem dX12_isDone_57 : decode cX12_isDone 57 = .ok (.getfield 40, 3) := by decide +kernel
theorem dX12_isDone_60 : decode cX12_isDone 60 = .ok (.iconst 2, 1) := by decide +kernel
theorem dX12_isDone_61 : decode cX12_isDone 61 = .ok (.iaload, 1) := by decide +kernel
theorem dX12_isDone_62 : decode cX12_isDone 62 = .ok (.iconst 1, 1) := by decide +kernel
theorem dX12_isDone_63 : decode cX12_isDone 63 = .ok (.if_icmp .lt 14, 3) := by decide +kernel
theorem dX12_isDone_66 : decode cX12_isDone 66 = .ok (.aload_n 0, 1) := by decide +kernel
theorem dX12_isDone_67 : decode cX12_isDone 67 = .ok (.getfield 9, 3) := by decide +kernel
theorem dX12_isDone_70 : decode cX12_isDone 70 = .ok (.iconst 0, 1) := by decide +kernel
theorem dX12_isDone_71 : decode cX12_isDone 71 = .ok (.iaload, 1) := by decide +kernel
theorem dX12_isDone_72 : decode cX12_isDone 72 = .ok (.bipush 10, 2) := by decide +kernel
theorem dX12_isDone_74 : decode cX12_isDone 74 = .ok (.if_icmp .ne 5, 3) := by decide +kernel
theorem dX12_isDone_77 : decode cX12_isDone 77 = .ok (.iconst 0, 1) := by decide +kernel
theorem dX12_isDone_78 : decode cX12_isDone 78 = .ok (.ireturn, 1) := by decide +kernel
theorem dX12_isDone_79 : decode cX12_isDone 79 = .ok (.iconst 0, 1) := by decide +kernel
theorem dX12_isDone_80 : decode cX12_isDone 80 = .ok (.istore 4, 2) := by decide +kernel
theorem dX12_isDone_82 : decode cX12_isDone 82 = .ok (.iload 4, 2) := by decide +kernel
theorem dX12_isDone_84 : decode cX12_isDone 84 = .ok (.iconst 3, 1) := by decide +kernel
theorem dX12_isDone_85 : decode cX12_isDone 85 = .ok (.if_icmp .ge 32, 3) := by decide +kernel
theorem dX12_isDone_88 : decode cX12_isDone 88 = .ok (.aload_n 0, 1) := by decide +kernel
theorem dX12_isDone_89 : decode cX12_isDone 89 = .ok (.getfield 9, 3) := by decide +kernel
theorem dX12_isDone_92 : decode cX12_isDone 92 = .ok (.aload_n 0, 1) := by decide +kernel
theorem dX12_isDone_93 : decode cX12_isDone 93 = .ok (.getfield 9, 3) := by decide +kernel
theorem dX12_isDone_96 : decode cX12_isDone 96 = .ok (.iconst 0, 1) := by decide +kernel
theorem dX12_isDone_97 : decode cX12_isDone 97 = .ok (.iaload, 1) := by decide +kernel
theorem dX12_isDone_98 : decode cX12_isDone 98 = .ok (.iload 4, 2) := by decide +kernel
theorem dX12_isDone_100 : decode cX12_isDone 100 = .ok (.invokestatic 66, 3) := by decide +kernel
theorem dX12_isDone_103 : decode cX12_isDone 103 = .ok (.aload_n 0, 1) := by decide +kernel
theorem dX12_isDone_104 : decode cX12_isDone 104 = .ok (.getfield 40, 3) := by decide +kernel
theorem dX12_isDone_107 : decode cX12_isDone 107 = .ok (.iload 4, 2) := by decide +kernel
theorem dX12_isDone_109 : decode cX12_isDone 109 = .ok (.iaload, 1) := by decide +kernel
theorem dX12_isDone_110 : decode cX12_isDone 110 = .ok (.iastore, 1) := by decide +kernel
theorem dX12_isDone_111 : decode cX12_isDone 111 = .ok (.iinc 4 1, 3) := by decide +kernel
theorem dX12_isDone_114 : decode cX12_isDone 114 = .ok (.goto (-32), 3) := by decide +kernel
theorem dX12_isDone_117 : decode cX12_isDone 117 = .ok (.aload_n 0, 1) := by decide +kernel
theorem dX12_isDone_118 : decode cX12_isDone 118 = .ok (.getfield 9, 3) := by decide +kernel
theorem dX12_isDone_121 : decode cX12_isDone 121 = .ok (.iconst 0, 1) := by decide +kernel
theorem dX12_isDone_122 : decode cX12_isDone 122 = .ok (.dup2, 1) := by decide +kernel
theorem dX12_isDone_123 : decode cX12_isDone 123 = .ok (.iaload, 1) := by decide +kernel
theorem dX12_isDone_124 : decode cX12_isDone 124 = .ok (.iconst 1, 1) := by decide +kernel
theorem dX12_isDone_125 : decode cX12_isDone 125 = .ok (.iadd, 1) := by decide +kernel
theorem dX12_isDone_126 : decode cX12_isDone 126 = .ok (.iastore, 1) := by decide +kernel
theorem dX12_isDone_127 : decode cX12_isDone 127 = .ok (.iconst 1, 1) := by decide +kernel
theorem dX12_isDone_128 : decode cX12_isDone 128 = .ok (.ireturn, 1) := by decide +kernel
theorem dX12_isDone_129 : decode cX12_isDone 129 = .ok (.aload_n 0, 1) := by decide +kernel
theorem dX12_isDone_130 : decode cX12_isDone 130 = .ok (.getfield 9, 3) := by decide +kernel
theorem dX12_isDone_133 : decode cX12_isDone 133 = .ok (.iconst 1, 1) := by decide +kernel
theorem dX12_isDone_134 : decode cX12_isDone 134 = .ok (.iaload, 1) := by decide +kernel
theorem dX12_isDone_135 : decode cX12_isDone 135 = .ok (.iconst 5, 1) := by decide +kernel
theorem dX12_isDone_136 : decode cX12_isDone 136 = .ok (.if_icmp .ne 5, 3) := by decide +kernel
theorem dX12_isDone_139 : decode cX12_isDone 139 = .ok (.iconst 0, 1) := by decide +kernel
theorem dX12_isDone_140 : decode cX12_isDone 140 = .ok (.ireturn, 1) := by decide +kernel
theorem dX12_isDone_141 : decode cX12_isDone 141 = .ok (.iconst 0, 1) := by decide +kernel
theorem dX12_isDone_142 : decode cX12_isDone 142 = .ok (.istore 4, 2) := by decide +kernel
theorem dX12_isDone_144 : decode cX12_isDone 144 = .ok (.iload 4, 2) := by decide +kernel
theorem dX12_isDone_146 : decode cX12_isDone 146 = .ok (.iconst 3, 1) := by decide +kernel
theorem dX12_isDone_147 : decode cX12_isDone 147 = .ok (.if_icmp .ge 32, 3) := by decide +kernel
theorem dX12_isDone_150 : decode cX12_isDone 150 = .ok (.aload_n 0, 1) := by decide +kernel
theorem dX12_isDone_151 : decode cX12_isDone 151 = .ok (.getfield 9, 3) := by decide +kernel
theorem dX12_isDone_154 : decode cX12_isDone 154 = .ok (.aload_n 0, 1) := by decide +kernel
theorem dX12_isDone_155 : decode cX12_isDone 155 = .ok (.getfield 9, 3) := by decide +kernel
theorem dX12_isDone_158 : decode cX12_isDone 158 = .ok (.iconst 1, 1) := by decide +kernel
theorem dX12_isDone_159 : decode cX12_isDone 159 = .ok (.iaload, 1) := by decide +kernel
theorem dX12_isDone_160 : decode cX12_isDone 160 = .ok (.iload 4, 2) := by decide +kernel
theorem dX12_isDone_162 : decode cX12_isDone 162 = .ok (.invokestatic 70, 3) := by decide +kernel
theorem dX12_isDone_165 : decode cX12_isDone 165 = .ok (.aload_n 0, 1) := by decide +kernel
theorem dX12_isDone_166 : decode cX12_isDone 166 = .ok (.getfield 40, 3) := by decide +kernel
theorem dX12_isDone_169 : decode cX12_isDone 169 = .ok (.iload 4, 2) := by decide +kernel
theorem dX12_isDone_171 : decode cX12_isDone 171 = .ok (.iaload, 1) := by decide +kernel
theorem dX12_isDone_172 : decode cX12_isDone 172 = .ok (.iastore, 1) := by decide +kernel
theorem dX12_isDone_173 : decode cX12_isDone 173 = .ok (.iinc 4 1, 3) := by decide +kernel
theorem dX12_isDone_176 : decode cX12_isDone 176 = .ok (.goto (-32), 3) := by decide +kernel
theorem dX12_isDone_179 : decode cX12_isDone 179 = .ok (.aload_n 0, 1) := by decide +kernel
theorem dX12_isDone_180 : decode cX12_isDone 180 = .ok (.getfield 9, 3) := by decide +kernel
theorem dX12_isDone_183 : decode cX12_isDone 183 = .ok (.aload_n 0, 1) := by decide +kernel
theorem dX12_isDone_184 : decode cX12_isDone 184 = .ok (.getfield 9, 3) := by decide +kernel
theorem dX12_isDone_187 : decode cX12_isDone 187 = .ok (.iconst 1, 1) := by decide +kernel
theorem dX12_isDone_188 : decode cX12_isDone 188 = .ok (.iaload, 1) := by decide +kernel
theorem dX12_isDone_189 : decode cX12_isDone 189 = .ok (.iconst 3, 1) := by decide +kernel
theorem dX12_isDone_190 : decode cX12_isDone 190 = .ok (.invokestatic 70, 3) := by decide +kernel
theorem dX12_isDone_193 : decode cX12_isDone 193 = .ok (.bipush 10, 2) := by decide +kernel
theorem dX12_isDone_195 : decode cX12_isDone 195 = .ok (.aload_n 0, 1) := by decide +kernel
theorem dX12_isDone_196 : decode cX12_isDone 196 = .ok (.getfield 40, 3) := by decide +kernel
theorem dX12_isDone_199 : decode cX12_isDone 199 = .ok (.iconst 3, 1) := by decide +kernel
theorem dX12_isDone_200 : decode cX12_isDone 200 = .ok (.iaload, 1) := by decide +kernel
theorem dX12_isDone_201 : decode cX12_isDone 201 = .ok (.imul, 1) := by decide +kernel
theorem dX12_isDone_202 : decode cX12_isDone 202 = .ok (.aload_n 0, 1) := by decide +kernel
theorem dX12_isDone_203 : decode cX12_isDone 203 = .ok (.getfield 40, 3) := by decide +kernel
theorem dX12_isDone_206 : decode cX12_isDone 206 = .ok (.iconst 4, 1) := by decide +kernel
theorem dX12_isDone_207 : decode cX12_isDone 207 = .ok (.iaload, 1) := by decide +kernel
theorem dX12_isDone_208 : decode cX12_isDone 208 = .ok (.iadd, 1) := by decide +kernel
theorem dX12_isDone_209 : decode cX12_isDone 209 = .ok (.iastore, 1) := by decide +kernel
theorem dX12_isDone_210 : decode cX12_isDone 210 = .ok (.iconst 0, 1) := by decide +kernel
theorem dX12_isDone_211 : decode cX12_isDone 211 = .ok (.istore 4, 2) := by decide +kernel
theorem dX12_isDone_213 : decode cX12_isDone 213 = .ok (.iload 4, 2) := by decide +kernel
theorem dX12_isDone_215 : decode cX12_isDone 215 = .ok (.bipush 10, 2) := by decide +kernel
theorem dX12_isDone_217 : decode cX12_isDone 217 = .ok (.if_icmp .ge 26, 3) := by decide +kernel
theorem dX12_isDone_220 : decode cX12_isDone 220 = .ok (.aload_n 0, 1) := by decide +kernel
theorem dX12_isDone_221 : decode cX12_isDone 221 = .ok (.getfield 9, 3) := by decide +kernel
theorem dX12_isDone_224 : decode cX12_isDone 224 = .ok (.aload_n 0, 1) := by decide +kernel
theorem dX12_isDone_225 : decode cX12_isDone 225 = .ok (.getfield 9, 3) := by decide +kernel
theorem dX12_isDone_228 : decode cX12_isDone 228 = .ok (.iconst 1, 1) := by decide +kernel
theorem dX12_isDone_229 : decode cX12_isDone 229 = .ok (.iaload, 1) := by decide +kernel
theorem dX12_isDone_230 : decode cX12_isDone 230 = .ok (.iload 4, 2) := by decide +kernel
theorem dX12_isDone_232 : decode cX12_isDone 232 = .ok (.invokestatic 91, 3) := by decide +kernel
theorem dX12_isDone_235 : decode cX12_isDone 235 = .ok (.iconst 1, 1) := by decide +kernel
theorem dX12_isDone_236 : decode cX12_isDone 236 = .ok (.iastore, 1) := by decide +kernel
theorem dX12_isDone_237 : decode cX12_isDone 237 = .ok (.iinc 4 1, 3) := by decide +kernel
theorem dX12_isDone_240 : decode cX12_isDone 240 = .ok (.goto (-27), 3) := by decide +kernel
theorem dX12_isDone_243 : decode cX12_isDone 243 = .ok (.aload_n 0, 1) := by decide +kernel
theorem dX12_isDone_244 : decode cX12_isDone 244 = .ok (.getfield 9, 3) := by decide +kernel
theorem dX12_isDone_247 : decode cX12_isDone 247 = .ok (.iconst 1, 1) := by decide +kernel
theorem dX12_isDone_248 : decode cX12_isDone 248 = .ok (.dup2, 1) := by decide +kernel
theorem dX12_isDone_249 : decode cX12_isDone 249 = .ok (.iaload, 1) := by decide +kernel
theorem dX12_isDone_250 : decode cX12_isDone 250 = .ok (.iconst 1, 1) := by decide +kernel
theorem dX12_isDone_251 : decode cX12_isDone 251 = .ok (.iadd, 1) := by decide +kernel
theorem dX12_isDone_252 : decode cX12_isDone 252 = .ok (.iastore, 1) := by decide +kernel
theorem dX12_isDone_253 : decode cX12_isDone 253 = .ok (.iconst 1, 1) := by decide +kernel
theorem dX12_isDone_254 : decode cX12_isDone 254 = .ok (.ireturn, 1) := by decide +kernel
theorem dX12_isDone_255 : decode cX12_isDone 255 = .ok (.aload_n 0, 1) := by decide +kernel
theorem dX12_isDone_256 : decode cX12_isDone 256 = .ok (.iload_n 2, 1) := by decide +kernel
theorem dX12_isDone_257 : decode cX12_isDone 257 = .ok (.invokevirtual 136, 3) := by decide +kernel
theorem dX12_isDone_260 : decode cX12_isDone 260 = .ok (.ifCond .eq 21, 3) := by decide +kernel
theorem dX12_isDone_263 : decode cX12_isDone 263 = .ok (.aload_n 0, 1) := by decide +kernel
theorem dX12_isDone_264 : decode cX12_isDone 264 = .ok (.iload_n 3, 1) := by decide +kernel
theorem dX12_isDone_265 : decode cX12_isDone 265 = .ok (.invokevirtual 139, 3) := by decide +kernel
theorem dX12_isDone_268 : decode cX12_isDone 268 = .ok (.ifCond .eq 13, 3) := by decide +kernel
theorem dX12_isDone_271 : decode cX12_isDone 271 = .ok (.aload_n 0, 1) := by decide +kernel
theorem dX12_isDone_272 : decode cX12_isDone 272 = .ok (.getfield 40, 3) := by decide +kernel
theorem dX12_isDone_275 : decode cX12_isDone 275 = .ok (.iconst 2, 1) := by decide +kernel
theorem dX12_isDone_276 : decode cX12_isDone 276 = .ok (.iaload, 1) := by decide +kernel
theorem dX12_isDone_277 : decode cX12_isDone 277 = .ok (.iconst 4, 1) := by decide +kernel
theorem dX12_isDone_278 : decode cX12_isDone 278 = .ok (.if_icmp .lt 5, 3) := by decide +kernel
theorem dX12_isDone_281 : decode cX12_isDone 281 = .ok (.iconst 0, 1) := by decide +kernel
theorem dX12_isDone_282 : decode cX12_isDone 282 = .ok (.ireturn, 1) := by decide +kernel
theorem dX12_isDone_283 : decode cX12_isDone 283 = .ok (.aload_n 0, 1) := by decide +kernel
theorem dX12_isDone_284 : decode cX12_isDone 284 = .ok (.getfield 9, 3) := by decide +kernel
theorem dX12_isDone_287 : decode cX12_isDone 287 = .ok (.iload_n 2, 1) := by decide +kernel
theorem dX12_isDone_288 : decode cX12_isDone 288 = .ok (.iload_n 3, 1) := by decide +kernel
theorem dX12_isDone_289 : decode cX12_isDone 289 = .ok (.invokestatic 91, 3) := by decide +kernel
theorem dX12_isDone_292 : decode cX12_isDone 292 = .ok (.aload_n 0, 1) := by decide +kernel
theorem dX12_isDone_293 : decode cX12_isDone 293 = .ok (.getfield 40, 3) := by decide +kernel
theorem dX12_isDone_296 : decode cX12_isDone 296 = .ok (.iconst 2, 1) := by decide +kernel
theorem dX12_isDone_297 : decode cX12_isDone 297 = .ok (.iaload, 1) := by decide +kernel
theorem dX12_isDone_298 : decode cX12_isDone 298 = .ok (.iastore, 1) := by decide +kernel
theorem dX12_isDone_299 : decode cX12_isDone 299 = .ok (.iconst 1, 1) := by decide +kernel
theorem dX12_isDone_300 : decode cX12_isDone 300 = .ok (.ireturn, 1) := by decide +kernel
theorem dX12_isDone_301 : decode cX12_isDone 301 = .ok (.aload_n 0, 1) := by decide +kernel
theorem dX12_isDone_302 : decode cX12_isDone 302 = .ok (.iload_n 2, 1) := by decide +kernel
theorem dX12_isDone_303 : decode cX12_isDone 303 = .ok (.invokevirtual 136, 3) := by decide +kernel
theorem dX12_isDone_306 : decode cX12_isDone 306 = .ok (.ifCond .ne 5, 3) := by decide +kernel
theorem dX12_isDone_309 : decode cX12_isDone 309 = .ok (.iconst 0, 1) := by decide +kernel
theorem dX12_isDone_310 : decode cX12_isDone 310 = .ok (.ireturn, 1) := by decide +kernel
theorem dX12_isDone_311 : decode cX12_isDone 311 = .ok (.iconst 1, 1) := by decide +kernel
theorem dX12_isDone_312 : decode cX12_isDone 312 = .ok (.istore 4, 2) := by decide +kernel
theorem dX12_isDone_314 : decode cX12_isDone 314 = .ok (.iload 4, 2) := by decide +kernel
theorem dX12_isDone_316 : decode cX12_isDone 316 = .ok (.aload_n 0, 1) := by decide +kernel
theorem dX12_isDone_317 : decode cX12_isDone 317 = .ok (.getfield 116, 3) := by decide +kernel
theorem dX12_isDone_320 : decode cX12_isDone 320 = .ok (.if_icmp .ge 42, 3) := by decide +kernel
theorem dX12_isDone_323 : decode cX12_isDone 323 = .ok (.aload_n 0, 1) := by decide +kernel
theorem dX12_isDone_324 : decode cX12_isDone 324 = .ok (.getfield 40, 3) := by decide +kernel
theorem dX12_isDone_327 : decode cX12_isDone 327 = .ok (.iload 4, 2) := by decide +kernel
theorem dX12_isDone_329 : decode cX12_isDone 329 = .ok (.iaload, 1) := by decide +kernel
theorem dX12_isDone_330 : decode cX12_isDone 330 = .ok (.iconst 4, 1) := by decide +kernel
theorem dX12_isDone_331 : decode cX12_isDone 331 = .ok (.if_icmp .lt 5, 3) := by decide +kernel
theorem dX12_isDone_334 : decode cX12_isDone 334 = .ok (.iconst 0, 1) := by decide +kernel
theorem dX12_isDone_335 : decode cX12_isDone 335 = .ok (.ireturn, 1) := by decide +kernel
theorem dX12_isDone_336 : decode cX12_isDone 336 = .ok (.aload_n 0, 1) := by decide +kernel
theorem dX12_isDone_337 : decode cX12_isDone 337 = .ok (.getfield 9, 3) := by decide +kernel
theorem dX12_isDone_340 : decode cX12_isDone 340 = .ok (.iload_n 2, 1) := by decide +kernel
theorem dX12_isDone_341 : decode cX12_isDone 341 = .ok (.iload 4, 2) := by decide +kernel
theorem dX12_isDone_343 : decode cX12_isDone 343 = .ok (.iconst 1, 1) := by decide +kernel
theorem dX12_isDone_344 : decode cX12_isDone 344 = .ok (.isub, 1) := by decide +kernel
theorem dX12_isDone_345 : decode cX12_isDone 345 = .ok (.invokestatic 91, 3) := by decide +kernel
theorem dX12_isDone_348 : decode cX12_isDone 348 = .ok (.aload_n 0, 1) := by decide +kernel
theorem dX12_isDone_349 : decode cX12_isDone 349 = .ok (.getfield 40, 3) := by decide +kernel
theorem dX12_isDone_352 : decode cX12_isDone 352 = .ok (.iload 4, 2) := by decide +kernel
theorem dX12_isDone_354 : decode cX12_isDone 354 = .ok (.iaload, 1) := by decide +kernel
theorem dX12_isDone_355 : decode cX12_isDone 355 = .ok (.iastore, 1) := by decide +kernel
theorem dX12_isDone_356 : decode cX12_isDone 356 = .ok (.iinc 4 1, 3) := by decide +kernel
theorem dX12_isDone_359 : decode cX12_isDone 359 = .ok (.goto (-45), 3) := by decide +kernel
theorem dX12_isDone_362 : decode cX12_isDone 362 = .ok (.iconst 1, 1) := by decide +kernel
theorem dX12_isDone_363 : decode cX12_isDone 363 = .ok (.ireturn, 1) := by decide +kernel
theorem dX12_isDone_364 : decode cX12_isDone 364 = .ok (.aload_n 0, 1) := by decide +kernel
theorem dX12_isDone_365 : decode cX12_isDone 365 = .ok (.iload_n 2, 1) := by decide +kernel
theorem dX12_isDone_366 : decode cX12_isDone 366 = .ok (.invokevirtual 139, 3) := by decide +kernel
theorem dX12_isDone_369 : decode cX12_isDone 369 = .ok (.ifCond .eq 16, 3) := by decide +kernel
theorem dX12_isDone_372 : decode cX12_isDone 372 = .ok (.aload_n 0, 1) := by decide +kernel
theorem dX12_isDone_373 : decode cX12_isDone 373 = .ok (.iload_n 3, 1) := by decide +kernel
theorem dX12_isDone_374 : decode cX12_isDone 374 = .ok (.invokevirtual 139, 3) := by decide +kernel
theorem dX12_isDone_377 : decode cX12_isDone 377 = .ok (.ifCond .eq 8, 3) := by decide +kernel
theorem dX12_isDone_380 : decode cX12_isDone 380 = .ok (.iload_n 2, 1) := by decide +kernel
theorem dX12_isDone_381 : decode cX12_isDone 381 = .ok (.iload_n 3, 1) := by decide +kernel
theorem dX12_isDone_382 : decode cX12_isDone 382 = .ok (.if_icmp .ne 5, 3) := by decide +kernel
theorem dX12_isDone_385 : decode cX12_isDone 385 = .ok (.iconst 0, 1) := by decide +kernel
theorem dX12_isDone_386 : decode cX12_isDone 386 = .ok (.ireturn, 1) := by decide +kernel
theorem dX12_isDone_387 : decode cX12_isDone 387 = .ok (.aload_n 0, 1) := by decide +kernel
theorem dX12_isDone_388 : decode cX12_isDone 388 = .ok (.iload_n 2, 1) := by decide +kernel
theorem dX12_isDone_389 : decode cX12_isDone 389 = .ok (.iload_n 3, 1) := by decide +kernel
theorem dX12_isDone_390 : decode cX12_isDone 390 = .ok (.aload_n 0, 1) := by decide +kernel
theorem dX12_isDone_391 : decode cX12_isDone 391 = .ok (.getfield 9, 3) := by decide +kernel
theorem dX12_isDone_394 : decode cX12_isDone 394 = .ok (.invokevirtual 142, 3) := by decide +kernel
theorem dX12_isDone_397 : decode cX12_isDone 397 = .ok (.iconst 1, 1) := by decide +kernel
theorem dX12_isDone_398 : decode cX12_isDone 398 = .ok (.ireturn, 1) := by decide +kernel
theorem dX12_race_0 : decode cX12_race 0 = .ok (.aload_n 0, 1) := by decide +kernel
theorem dX12_race_1 : decode cX12_race 1 = .ok (.iconst 0, 1) := by decide +kernel
theorem dX12_race_2 : decode cX12_race 2 = .ok (.putfield 109, 3) := by decide +kernel
theorem dX12_race_5 : decode cX12_race 5 = .ok (.iconst 0, 1) := by decide +kernel
theorem dX12_race_6 : decode cX12_race 6 = .ok (.istore_n 1, 1) := by decide +kernel
theorem dX12_race_7 : decode cX12_race 7 = .ok (.bipush (-9), 2) := by decide +kernel
theorem dX12_race_9 : decode cX12_race 9 = .ok (.istore_n 2, 1) := by decide +kernel
theorem dX12_race_10 : decode cX12_race 10 = .ok (.aload_n 0, 1) := by decide +kernel
theorem dX12_race_11 : decode cX12_race 11 = .ok (.invokevirtual 146, 3) := by decide +kernel
theorem dX12_race_14 : decode cX12_race 14 = .ok (.ifCond .ne 12, 3) := by decide +kernel
theorem dX12_race_17 : decode cX12_race 17 = .ok (.sipush (-1000), 3) := by decide +kernel
theorem dX12_race_20 : decode cX12_race 20 = .ok (.aload_n 0, 1) := by decide +kernel
theorem dX12_race_21 : decode cX12_race 21 = .ok (.getfield 109, 3) := by decide +kernel
theorem dX12_race_24 : decode cX12_race 24 = .ok (.isub, 1) := by decide +kernel
theorem dX12_race_25 : decode cX12_race 25 = .ok (.istore_n 2, 1) := by decide +kernel
theorem dX12_race_26 : decode cX12_race 26 = .ok (.iinc 1 1, 3) := by decide +kernel
theorem dX12_race_29 : decode cX12_race 29 = .ok (.iload_n 2, 1) := by decide +kernel
theorem dX12_race_30 : decode cX12_race 30 = .ok (.bipush (-9), 2) := by decide +kernel
theorem dX12_race_32 : decode cX12_race 32 = .ok (.if_icmp .ne 14, 3) := by decide +kernel
theorem dX12_race_35 : decode cX12_race 35 = .ok (.aload_n 0, 1) := by decide +kernel
theorem dX12_race_36 : decode cX12_race 36 = .ok (.getfield 109, 3) := by decide +kernel
theorem dX12_race_39 : decode cX12_race 39 = .ok (.aload_n 0, 1) := by decide +kernel
theorem dX12_race_40 : decode cX12_race 40 = .ok (.getfield 105, 3) := by decide +kernel
theorem dX12_race_43 : decode cX12_race 43 = .ok (.if_icmp .lt (-33), 3) := by decide +kernel
theorem dX12_race_46 : decode cX12_race 46 = .ok (.aload_n 0, 1) := by decide +kernel
theorem dX12_race_47 : decode cX12_race 47 = .ok (.getfield 9, 3) := by decide +kernel
theorem dX12_race_50 : decode cX12_race 50 = .ok (.aload_n 0, 1) := by decide +kernel
theorem dX12_race_51 : decode cX12_race 51 = .ok (.getfield 19, 3) := by decide +kernel
theorem dX12_race_54 : decode cX12_race 54 = .ok (.invokestatic 149, 3) := by decide +kernel
theorem dX12_race_57 : decode cX12_race 57 = .ok (.aload_n 0, 1) := by decide +kernel
theorem dX12_race_58 : decode cX12_race 58 = .ok (.iconst 0, 1) := by decide +kernel
theorem dX12_race_59 : decode cX12_race 59 = .ok (.putfield 109, 3) := by decide +kernel
theorem dX12_race_62 : decode cX12_race 62 = .ok (.iload_n 2, 1) := by decide +kernel
theorem dX12_race_63 : decode cX12_race 63 = .ok (.bipush (-9), 2) := by decide +kernel
theorem dX12_race_65 : decode cX12_race 65 = .ok (.if_icmp .ne 63, 3) := by decide +kernel
theorem dX12_race_68 : decode cX12_race 68 = .ok (.aload_n 0, 1) := by decide +kernel
theorem dX12_race_69 : decode cX12_race 69 = .ok (.getfield 109, 3) := by decide +kernel
theorem dX12_race_72 : decode cX12_race 72 = .ok (.aload_n 0, 1) := by decide +kernel
theorem dX12_race_73 : decode cX12_race 73 = .ok (.getfield 105, 3) := by decide +kernel
theorem dX12_race_76 : decode cX12_race 76 = .ok (.if_icmp .ge 52, 3) := by decide +kernel
theorem dX12_race_79 : decode cX12_race 79 = .ok (.aload_n 0, 1) := by decide +kernel
theorem dX12_race_80 : decode cX12_race 80 = .ok (.getfield 109, 3) := by decide +kernel
theorem dX12_race_83 : decode cX12_race 83 = .ok (.istore_n 3, 1) := by decide +kernel
theorem dX12_race_84 : decode cX12_race 84 = .ok (.aload_n 0, 1) := by decide +kernel
theorem dX12_race_85 : decode cX12_race 85 = .ok (.invokevirtual 112, 3) := by decide +kernel
theorem dX12_race_88 : decode cX12_race 88 = .ok (.istore 4, 2) := by decide +kernel
theorem dX12_race_90 : decode cX12_race 90 = .ok (.aload_n 0, 1) := by decide +kernel
theorem dX12_race_91 : decode cX12_race 91 = .ok (.invokevirtual 146, 3) := by decide +kernel
theorem dX12_race_94 : decode cX12_race 94 = .ok (.istore 5, 2) := by decide +kernel
theorem dX12_race_96 : decode cX12_race 96 = .ok (.aload_n 0, 1) := by decide +kernel
theorem dX12_race_97 : decode cX12_race 97 = .ok (.iload 4, 2) := by decide +kernel
theorem dX12_race_99 : decode cX12_race 99 = .ok (.invokevirtual 153, 3) := by decide +kernel
theorem dX12_race_102 : decode cX12_race 102 = .ok (.ifCond .eq 6, 3) := by decide +kernel
theorem dX12_race_105 : decode cX12_race 105 = .ok (.goto (-43), 3) := by decide +kernel
theorem dX12_race_108 : decode cX12_race 108 = .ok (.sipush (-2000), 3) := by decide +kernel
theorem dX12_race_111 : decode cX12_race 111 = .ok (.iload_n 3, 1) := by decide +kernel
theorem dX12_race_112 : decode cX12_race 112 = .ok (.isub, 1) := by decide +kernel
theorem dX12_race_113 : decode cX12_race 113 = .ok (.istore_n 2, 1) := by decide +kernel
theorem dX12_race_114 : decode cX12_race 114 = .ok (.aload_n 0, 1) := by decide +kernel
theorem dX12_race_115 : decode cX12_race 115 = .ok (.getfield 19, 3) := by decide +kernel
theorem dX12_race_118 : decode cX12_race 118 = .ok (.aload_n 0, 1) := by decide +kernel
theorem dX12_race_119 : decode cX12_race 119 = .ok (.getfield 9, 3) := by decide +kernel
theorem dX12_race_122 : decode cX12_race 122 = .ok (.invokestatic 149, 3) := by decide +kernel
theorem dX12_race_125 : decode cX12_race 125 = .ok (.goto (-63), 3) := by decide +kernel
theorem dX12_race_128 : decode cX12_race 128 = .ok (.aload_n 0, 1) := by decide +kernel
theorem dX12_race_129 : decode cX12_race 129 = .ok (.iconst 0, 1) := by decide +kernel
theorem dX12_race_130 : decode cX12_race 130 = .ok (.putfield 105, 3) := by decide +kernel
theorem dX12_race_133 : decode cX12_race 133 = .ok (.iload_n 2, 1) := by decide +kernel
theorem dX12_race_134 : decode cX12_race 134 = .ok (.bipush (-9), 2) := by decide +kernel
theorem dX12_race_136 : decode cX12_race 136 = .ok (.if_icmp .ne 7, 3) := by decide +kernel
theorem dX12_race_139 : decode cX12_race 139 = .ok (.iload_n 1, 1) := by decide +kernel
theorem dX12_race_140 : decode cX12_race 140 = .ok (.goto 4, 3) := by decide +kernel
theorem dX12_race_143 : decode cX12_race 143 = .ok (.iload_n 2, 1) := by decide +kernel
theorem dX12_race_144 : decode cX12_race 144 = .ok (.ireturn, 1) := by decide +kernel
