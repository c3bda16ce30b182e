/-! decode rows: the class -/
theorem dX11_init_0 : decode cX11_init 0 = .ok (.aload_n 0, 1) := by decide +kernel
theorem dX11_init_1 : decode cX11_init 1 = .ok (.invokespecial 1, 3) := by decide +kernel
theorem dX11_init_4 : decode cX11_init 4 = .ok (.aload_n 0, 1) := by decide +kernel
theorem dX11_init_5 : decode cX11_init 5 = .ok (.new 7, 3) := by decide +kernel
theorem dX11_init_8 : decode cX11_init 8 = .ok (.dup, 1) := by decide +kernel
theorem dX11_init_9 : decode cX11_init 9 = .ok (.invokespecial 9, 3) := by decide +kernel
theorem dX11_init_12 : decode cX11_init 12 = .ok (.putfield 10, 3) := by decide +kernel
theorem dX11_init_15 : decode cX11_init 15 = .ok (.aload_n 0, 1) := by decide +kernel
theorem dX11_init_16 : decode cX11_init 16 = .ok (.new 7, 3) := by decide +kernel
theorem dX11_init_19 : decode cX11_init 19 = .ok (.dup, 1) := by decide +kernel
theorem dX11_init_20 : decode cX11_init 20 = .ok (.invokespecial 9, 3) := by decide +kernel
theorem dX11_init_23 : decode cX11_init 23 = .ok (.putfield 16, 3) := by decide +kernel
theorem dX11_init_26 : decode cX11_init 26 = .ok (.aload_n 0, 1) := by decide +kernel
theorem dX11_init_27 : decode cX11_init 27 = .ok (.iconst 0, 1) := by decide +kernel
theorem dX11_init_28 : decode cX11_init 28 = .ok (.putfield 19, 3) := by decide +kernel
theorem dX11_init_31 : decode cX11_init 31 = .ok (.aload_n 0, 1) := by decide +kernel
theorem dX11_init_32 : decode cX11_init 32 = .ok (.new 23, 3) := by decide +kernel
theorem dX11_init_35 : decode cX11_init 35 = .ok (.dup, 1) := by decide +kernel
theorem dX11_init_36 : decode cX11_init 36 = .ok (.invokespecial 25, 3) := by decide +kernel
theorem dX11_init_39 : decode cX11_init 39 = .ok (.putfield 26, 3) := by decide +kernel
theorem dX11_init_42 : decode cX11_init 42 = .ok (.aload_n 0, 1) := by decide +kernel
theorem dX11_init_43 : decode cX11_init 43 = .ok (.new 30, 3) := by decide +kernel
theorem dX11_init_46 : decode cX11_init 46 = .ok (.dup, 1) := by decide +kernel
theorem dX11_init_47 : decode cX11_init 47 = .ok (.invokespecial 32, 3) := by decide +kernel
theorem dX11_init_50 : decode cX11_init 50 = .ok (.putfield 33, 3) := by decide +kernel
theorem dX11_init_53 : decode cX11_init 53 = .ok (.aload_n 0, 1) := by decide +kernel
theorem dX11_init_54 : decode cX11_init 54 = .ok (.bipush 7, 2) := by decide +kernel
theorem dX11_init_56 : decode cX11_init 56 = .ok (.newarray .int, 2) := by decide +kernel
theorem dX11_init_58 : decode cX11_init 58 = .ok (.putfield 37, 3) := by decide +kernel
theorem dX11_init_61 : decode cX11_init 61 = .ok (.aload_n 0, 1) := by decide +kernel
theorem dX11_init_62 : decode cX11_init 62 = .ok (.new 41, 3) := by decide +kernel
theorem dX11_init_65 : decode cX11_init 65 = .ok (.dup, 1) := by decide +kernel
theorem dX11_init_66 : decode cX11_init 66 = .ok (.invokespecial 43, 3) := by decide +kernel
theorem dX11_init_69 : decode cX11_init 69 = .ok (.putfield 44, 3) := by decide +kernel
theorem dX11_init_72 : decode cX11_init 72 = .ok (.aload_n 0, 1) := by decide +kernel
theorem dX11_init_73 : decode cX11_init 73 = .ok (.new 41, 3) := by decide +kernel
theorem dX11_init_76 : decode cX11_init 76 = .ok (.dup, 1) := by decide +kernel
theorem dX11_init_77 : decode cX11_init 77 = .ok (.invokespecial 43, 3) := by decide +kernel
theorem dX11_init_80 : decode cX11_init 80 = .ok (.putfield 48, 3) := by decide +kernel
theorem dX11_init_83 : decode cX11_init 83 = .ok (.aload_n 0, 1) := by decide +kernel
theorem dX11_init_84 : decode cX11_init 84 = .ok (.new 51, 3) := by decide +kernel
theorem dX11_init_87 : decode cX11_init 87 = .ok (.dup, 1) := by decide +kernel
theorem dX11_init_88 : decode cX11_init 88 = .ok (.invokespecial 53, 3) := by decide +kernel
theorem dX11_init_91 : decode cX11_init 91 = .ok (.putfield 54, 3) := by decide +kernel
theorem dX11_init_94 : decode cX11_init 94 = .ok (.aload_n 0, 1) := by decide +kernel
theorem dX11_init_95 : decode cX11_init 95 = .ok (.new 58, 3) := by decide +kernel
theorem dX11_init_98 : decode cX11_init 98 = .ok (.dup, 1) := by decide +kernel
theorem dX11_init_99 : decode cX11_init 99 = .ok (.invokespecial 60, 3) := by decide +kernel
theorem dX11_init_102 : decode cX11_init 102 = .ok (.putfield 61, 3) := by decide +kernel
theorem dX11_init_105 : decode cX11_init 105 = .ok (.aload_n 0, 1) := by decide +kernel
theorem dX11_init_106 : decode cX11_init 106 = .ok (.new 65, 3) := by decide +kernel
theorem dX11_init_109 : decode cX11_init 109 = .ok (.dup, 1) := by decide +kernel
theorem dX11_init_110 : decode cX11_init 110 = .ok (.invokespecial 67, 3) := by decide +kernel
theorem dX11_init_113 : decode cX11_init 113 = .ok (.putfield 68, 3) := by decide +kernel
theorem dX11_init_116 : decode cX11_init 116 = .ok (.return_, 1) := by decide +kernel
theorem dX11_letter_0 : decode cX11_letter 0 = .ok (.iload_n 1, 1) := by decide +kernel
theorem dX11_letter_1 : decode cX11_letter 1 = .ok (.ifCond .ge 10, 3) := by decide +kernel
theorem dX11_letter_4 : decode cX11_letter 4 = .ok (.aload_n 0, 1) := by decide +kernel
theorem dX11_letter_5 : decode cX11_letter 5 = .ok (.bipush (-4), 2) := by decide +kernel
theorem dX11_letter_7 : decode cX11_letter 7 = .ok (.invokevirtual 72, 3) := by decide +kernel
theorem dX11_letter_10 : decode cX11_letter 10 = .ok (.ireturn, 1) := by decide +kernel
theorem dX11_letter_11 : decode cX11_letter 11 = .ok (.iload_n 1, 1) := by decide +kernel
theorem dX11_letter_12 : decode cX11_letter 12 = .ok (.sipush 255, 3) := by decide +kernel
theorem dX11_letter_15 : decode cX11_letter 15 = .ok (.if_icmp .gt 13, 3) := by decide +kernel
theorem dX11_letter_18 : decode cX11_letter 18 = .ok (.aload_n 0, 1) := by decide +kernel
theorem dX11_letter_19 : decode cX11_letter 19 = .ok (.getfield 26, 3) := by decide +kernel
theorem dX11_letter_22 : decode cX11_letter 22 = .ok (.invokevirtual 76, 3) := by decide +kernel
theorem dX11_letter_25 : decode cX11_letter 25 = .ok (.ifCond .eq 10, 3) := by decide +kernel
theorem dX11_letter_28 : decode cX11_letter 28 = .ok (.aload_n 0, 1) := by decide +kernel
theorem dX11_letter_29 : decode cX11_letter 29 = .ok (.bipush (-6), 2) := by decide +kernel
theorem dX11_letter_31 : decode cX11_letter 31 = .ok (.invokevirtual 72, 3) := by decide +kernel
theorem dX11_letter_34 : decode cX11_letter 34 = .ok (.ireturn, 1) := by decide +kernel
theorem dX11_letter_35 : decode cX11_letter 35 = .ok (.aload_n 0, 1) := by decide +kernel
theorem dX11_letter_36 : decode cX11_letter 36 = .ok (.getfield 26, 3) := by decide +kernel
theorem dX11_letter_39 : decode cX11_letter 39 = .ok (.iload_n 1, 1) := by decide +kernel
theorem dX11_letter_40 : decode cX11_letter 40 = .ok (.invokevirtual 80, 3) := by decide +kernel
theorem dX11_letter_43 : decode cX11_letter 43 = .ok (.ireturn, 1) := by decide +kernel
theorem dX11_race_0 : decode cX11_race 0 = .ok (.aload_n 0, 1) := by decide +kernel
theorem dX11_race_1 : decode cX11_race 1 = .ok (.getfield 26, 3) := by decide +kernel
theorem dX11_race_4 : decode cX11_race 4 = .ok (.aload_n 0, 1) := by decide +kernel
theorem dX11_race_5 : decode cX11_race 5 = .ok (.getfield 10, 3) := by decide +kernel
theorem dX11_race_8 : decode cX11_race 8 = .ok (.invokevirtual 83, 3) := by decide +kernel
theorem dX11_race_11 : decode cX11_race 11 = .ok (.istore_n 1, 1) := by decide +kernel
theorem dX11_race_12 : decode cX11_race 12 = .ok (.iload_n 1, 1) := by decide +kernel
theorem dX11_race_13 : decode cX11_race 13 = .ok (.ifCond .ne 15, 3) := by decide +kernel
theorem dX11_race_16 : decode cX11_race 16 = .ok (.aload_n 0, 1) := by decide +kernel
theorem dX11_race_17 : decode cX11_race 17 = .ok (.getfield 26, 3) := by decide +kernel
theorem dX11_race_20 : decode cX11_race 20 = .ok (.aload_n 0, 1) := by decide +kernel
theorem dX11_race_21 : decode cX11_race 21 = .ok (.getfield 10, 3) := by decide +kernel
theorem dX11_race_24 : decode cX11_race 24 = .ok (.invokevirtual 87, 3) := by decide +kernel
theorem dX11_race_27 : decode cX11_race 27 = .ok (.istore_n 1, 1) := by decide +kernel
theorem dX11_race_28 : decode cX11_race 28 = .ok (.aload_n 0, 1) := by decide +kernel
theorem dX11_race_29 : decode cX11_race 29 = .ok (.getfield 26, 3) := by decide +kernel
theorem dX11_race_32 : decode cX11_race 32 = .ok (.invokevirtual 90, 3) := by decide +kernel
theorem dX11_race_35 : decode cX11_race 35 = .ok (.iload_n 1, 1) := by decide +kernel
theorem dX11_race_36 : decode cX11_race 36 = .ok (.ireturn, 1) := by decide +kernel
theorem dX11_section_0 : decode cX11_section 0 = .ok (.aload_n 0, 1) := by decide +kernel
theorem dX11_section_1 : decode cX11_section 1 = .ok (.getfield 10, 3) := by decide +kernel
theorem dX11_section_4 : decode cX11_section 4 = .ok (.getfield 93, 3) := by decide +kernel
theorem dX11_section_7 : decode cX11_section 7 = .ok (.iload_n 1, 1) := by decide +kernel
theorem dX11_section_8 : decode cX11_section 8 = .ok (.invokevirtual 97, 3) := by decide +kernel
theorem dX11_section_11 : decode cX11_section 11 = .ok (.ifCond .ne 9, 3) := by decide +kernel
theorem dX11_section_14 : decode cX11_section 14 = .ok (.aload_n 0, 1) := by decide +kernel
theorem dX11_section_15 : decode cX11_section 15 = .ok (.iconst (-1), 1) := by decide +kernel
theorem dX11_section_16 : decode cX11_section 16 = .ok (.invokevirtual 72, 3) := by decide +kernel
theorem dX11_section_19 : decode cX11_section 19 = .ok (.ireturn, 1) := by decide +kernel
theorem dX11_section_20 : decode cX11_section 20 = .ok (.iload_n 2, 1) := by decide +kernel
theorem dX11_section_21 : decode cX11_section 21 = .ok (.tableswitch 86 0 3 #[31, 44, 57, 70], 31) := by decide +kernel
theorem dX11_section_52 : decode cX11_section 52 = .ok (.aload_n 0, 1) := by decide +kernel
theorem dX11_section_53 : decode cX11_section 53 = .ok (.getfield 10, 3) := by decide +kernel
theorem dX11_section_56 : decode cX11_section 56 = .ok (.getfield 93, 3) := by decide +kernel
theorem dX11_section_59 : decode cX11_section 59 = .ok (.getfield 103, 3) := by decide +kernel
theorem dX11_section_62 : decode cX11_section 62 = .ok (.iload_n 1, 1) := by decide +kernel
theorem dX11_section_63 : decode cX11_section 63 = .ok (.iaload, 1) := by decide +kernel
theorem dX11_section_64 : decode cX11_section 64 = .ok (.ireturn, 1) := by decide +kernel
theorem dX11_section_65 : decode cX11_section 65 = .ok (.aload_n 0, 1) := by decide +kernel
theorem dX11_section_66 : decode cX11_section 66 = .ok (.getfield 10, 3) := by decide +kernel
theorem dX11_section_69 : decode cX11_section 69 = .ok (.getfield 93, 3) := by decide +kernel
theorem dX11_section_72 : decode cX11_section 72 = .ok (.getfield 106, 3) := by decide +kernel
theorem dX11_section_75 : decode cX11_section 75 = .ok (.iload_n 1, 1) := by decide +kernel
theorem dX11_section_76 : decode cX11_section 76 = .ok (.iaload, 1) := by decide +kernel
theorem dX11_section_77 : decode cX11_section 77 = .ok (.ireturn, 1) := by decide +kernel
theorem dX11_section_78 : decode cX11_section 78 = .ok (.aload_n 0, 1) := by decide +kernel
theorem dX11_section_79 : decode cX11_section 79 = .ok (.getfield 10, 3) := by decide +kernel
theorem dX11_section_82 : decode cX11_section 82 = .ok (.getfield 93, 3) := by decide +kernel
theorem dX11_section_85 : decode cX11_section 85 = .ok (.getfield 109, 3) := by decide +kernel
theorem dX11_section_88 : decode cX11_section 88 = .ok (.iload_n 1, 1) := by decide +kernel
theorem dX11_section_89 : decode cX11_section 89 = .ok (.iaload, 1) := by decide +kernel
theorem dX11_section_90 : decode cX11_section 90 = .ok (.ireturn, 1) := by decide +kernel
theorem dX11_section_91 : decode cX11_section 91 = .ok (.aload_n 0, 1) := by decide +kernel
theorem dX11_section_92 : decode cX11_section 92 = .ok (.getfield 10, 3) := by decide +kernel
theorem dX11_section_95 : decode cX11_section 95 = .ok (.getfield 93, 3) := by decide +kernel
theorem dX11_section_98 : decode cX11_section 98 = .ok (.getfield 103, 3) := by decide +kernel
theorem dX11_section_101 : decode cX11_section 101 = .ok (.iload_n 1, 1) := by decide +kernel
theorem dX11_section_102 : decode cX11_section 102 = .ok (.iaload, 1) := by decide +kernel
theorem dX11_section_103 : decode cX11_section 103 = .ok (.invokestatic 112, 3) := by decide +kernel
theorem dX11_section_106 : decode cX11_section 106 = .ok (.ireturn, 1) := by decide +kernel
theorem dX11_section_107 : decode cX11_section 107 = .ok (.aload_n 0, 1) := by decide +kernel
theorem dX11_section_108 : decode cX11_section 108 = .ok (.bipush (-2), 2) := by decide +kernel
theorem dX11_section_110 : decode cX11_section 110 = .ok (.invokevirtual 72, 3) := by decide +kernel
theorem dX11_section_113 : decode cX11_section 113 = .ok (.ireturn, 1) := by decide +kernel
theorem dX11_athlete_0 : decode cX11_athlete 0 = .ok (.aload_n 0, 1) := by decide +kernel
theorem dX11_athlete_1 : decode cX11_athlete 1 = .ok (.getfield 10, 3) := by decide +kernel
theorem dX11_athlete_4 : decode cX11_athlete 4 = .ok (.iload_n 1, 1) := by decide +kernel
theorem dX11_athlete_5 : decode cX11_athlete 5 = .ok (.invokevirtual 117, 3) := by decide +kernel
theorem dX11_athlete_8 : decode cX11_athlete 8 = .ok (.ifCond .ne 9, 3) := by decide +kernel
theorem dX11_athlete_11 : decode cX11_athlete 11 = .ok (.aload_n 0, 1) := by decide +kernel
theorem dX11_athlete_12 : decode cX11_athlete 12 = .ok (.iconst (-1), 1) := by decide +kernel
theorem dX11_athlete_13 : decode cX11_athlete 13 = .ok (.invokevirtual 72, 3) := by decide +kernel
theorem dX11_athlete_16 : decode cX11_athlete 16 = .ok (.ireturn, 1) := by decide +kernel
theorem dX11_athlete_17 : decode cX11_athlete 17 = .ok (.iload_n 2, 1) := by decide +kernel
theorem dX11_athlete_18 : decode cX11_athlete 18 = .ok (.ifCond .lt 8, 3) := by decide +kernel
theorem dX11_athlete_21 : decode cX11_athlete 21 = .ok (.iload_n 2, 1) := by decide +kernel
theorem dX11_athlete_22 : decode cX11_athlete 22 = .ok (.iconst 3, 1) := by decide +kernel
theorem dX11_athlete_23 : decode cX11_athlete 23 = .ok (.if_icmp .le 10, 3) := by decide +kernel
theorem dX11_athlete_26 : decode cX11_athlete 26 = .ok (.aload_n 0, 1) := by decide +kernel
theorem dX11_athlete_27 : decode cX11_athlete 27 = .ok (.bipush (-2), 2) := by decide +kernel
theorem dX11_athlete_29 : decode cX11_athlete 29 = .ok (.invokevirtual 72, 3) := by decide +kernel
theorem dX11_athlete_32 : decode cX11_athlete 32 = .ok (.ireturn, 1) := by decide +kernel
theorem dX11_athlete_33 : decode cX11_athlete 33 = .ok (.aload_n 0, 1) := by decide +kernel
theorem dX11_athlete_34 : decode cX11_athlete 34 = .ok (.getfield 10, 3) := by decide +kernel
theorem dX11_athlete_37 : decode cX11_athlete 37 = .ok (.getfield 118, 3) := by decide +kernel
theorem dX11_athlete_40 : decode cX11_athlete 40 = .ok (.iload_n 1, 1) := by decide +kernel
theorem dX11_athlete_41 : decode cX11_athlete 41 = .ok (.aaload, 1) := by decide +kernel
theorem dX11_athlete_42 : decode cX11_athlete 42 = .ok (.getfield 122, 3) := by decide +kernel
theorem dX11_athlete_45 : decode cX11_athlete 45 = .ok (.iload_n 2, 1) := by decide +kernel
theorem dX11_athlete_46 : decode cX11_athlete 46 = .ok (.iaload, 1) := by decide +kernel
theorem dX11_athlete_47 : decode cX11_athlete 47 = .ok (.ireturn, 1) := by decide +kernel
theorem dX11_tries_0 : decode cX11_tries 0 = .ok (.aload_n 0, 1) := by decide +kernel
theorem dX11_tries_1 : decode cX11_tries 1 = .ok (.getfield 10, 3) := by decide +kernel
theorem dX11_tries_4 : decode cX11_tries 4 = .ok (.iload_n 1, 1) := by decide +kernel
theorem dX11_tries_5 : decode cX11_tries 5 = .ok (.invokevirtual 117, 3) := by decide +kernel
theorem dX11_tries_8 : decode cX11_tries 8 = .ok (.ifCond .eq 17, 3) := by decide +kernel
theorem dX11_tries_11 : decode cX11_tries 11 = .ok (.aload_n 0, 1) := by decide +kernel
theorem dX11_tries_12 : decode cX11_tries 12 = .ok (.getfield 10, 3) := by decide +kernel
theorem dX11_tries_15 : decode cX11_tries 15 = .ok (.getfield 93, 3) := by decide +kernel
theorem dX11_tries_18 : decode cX11_tries 18 = .ok (.iload_n 2, 1) := by decide +kernel
theorem dX11_tries_19 : decode cX11_tries 19 = .ok (.invokevirtual 97, 3) := by decide +kernel
theorem dX11_tries_22 : decode cX11_tries 22 = .ok (.ifCond .ne 9, 3) := by decide +kernel
theorem dX11_tries_25 : decode cX11_tries 25 = .ok (.aload_n 0, 1) := by decide +kernel
theorem dX11_tries_26 : decode cX11_tries 26 = .ok (.iconst (-1), 1) := by decide +kernel
theorem dX11_tries_27 : decode cX11_tries 27 = .ok (.invokevirtual 72, 3) := by decide +kernel
theorem dX11_tries_30 : decode cX11_tries 30 = .ok (.ireturn, 1) := by decide +kernel
theorem dX11_tries_31 : decode cX11_tries 31 = .ok (.aload_n 0, 1) := by decide +kernel
theorem dX11_tries_32 : decode cX11_tries 32 = .ok (.getfield 10, 3) := by decide +kernel
theorem dX11_tries_35 : decode cX11_tries 35 = .ok (.getfield 118, 3) := by decide +kernel
theorem dX11_tries_38 : decode cX11_tries 38 = .ok (.iload_n 1, 1) := by decide +kernel
theorem dX11_tries_39 : decode cX11_tries 39 = .ok (.aaload, 1) := by decide +kernel
theorem dX11_tries_40 : decode cX11_tries 40 = .ok (.getfield 127, 3) := by decide +kernel
theorem dX11_tries_43 : decode cX11_tries 43 = .ok (.iload_n 2, 1) := by decide +kernel
theorem dX11_tries_44 : decode cX11_tries 44 = .ok (.iaload, 1) := by decide +kernel
theorem dX11_tries_45 : decode cX11_tries 45 = .ok (.ireturn, 1) := by decide +kernel
theorem dX11_turn_0 : decode cX11_turn 0 = .ok (.aload_n 0, 1) := by decide +kernel
theorem dX11_turn_1 : decode cX11_turn 1 = .ok (.getfield 10, 3) := by decide +kernel
theorem dX11_turn_4 : decode cX11_turn 4 = .ok (.getfield 93, 3) := by decide +kernel
theorem dX11_turn_7 : decode cX11_turn 7 = .ok (.iload_n 1, 1) := by decide +kernel
theorem dX11_turn_8 : decode cX11_turn 8 = .ok (.invokevirtual 97, 3) := by decide +kernel
theorem dX11_turn_11 : decode cX11_turn 11 = .ok (.ifCond .ne 9, 3) := by decide +kernel
theorem dX11_turn_14 : decode cX11_turn 14 = .ok (.aload_n 0, 1) := by decide +kernel
theorem dX11_turn_15 : decode cX11_turn 15 = .ok (.iconst (-1), 1) := by decide +kernel
theorem dX11_turn_16 : decode cX11_turn 16 = .ok (.invokevirtual 72, 3) := by decide +kernel
theorem dX11_turn_19 : decode cX11_turn 19 = .ok (.ireturn, 1) := by decide +kernel
theorem dX11_turn_20 : decode cX11_turn 20 = .ok (.iload_n 2, 1) := by decide +kernel
theorem dX11_turn_21 : decode cX11_turn 21 = .ok (.ifCond .lt 9, 3) := by decide +kernel
theorem dX11_turn_24 : decode cX11_turn 24 = .ok (.iload_n 2, 1) := by decide +kernel
theorem dX11_turn_25 : decode cX11_turn 25 = .ok (.bipush 7, 2) := by decide +kernel
theorem dX11_turn_27 : decode cX11_turn 27 = .ok (.if_icmp .lt 10, 3) := by decide +kernel
theorem dX11_turn_30 : decode cX11_turn 30 = .ok (.aload_n 0, 1) := by decide +kernel
theorem dX11_turn_31 : decode cX11_turn 31 = .ok (.bipush (-2), 2) := by decide +kernel
theorem dX11_turn_33 : decode cX11_turn 33 = .ok (.invokevirtual 72, 3) := by decide +kernel
theorem dX11_turn_36 : decode cX11_turn 36 = .ok (.ireturn, 1) := by decide +kernel
theorem dX11_turn_37 : decode cX11_turn 37 = .ok (.iload_n 3, 1) := by decide +kernel
theorem dX11_turn_38 : decode cX11_turn 38 = .ok (.ifCond .ge 10, 3) := by decide +kernel
theorem dX11_turn_41 : decode cX11_turn 41 = .ok (.aload_n 0, 1) := by decide +kernel
theorem dX11_turn_42 : decode cX11_turn 42 = .ok (.bipush (-4), 2) := by decide +kernel
theorem dX11_turn_44 : decode cX11_turn 44 = .ok (.invokevirtual 72, 3) := by decide +kernel
theorem dX11_turn_47 : decode cX11_turn 47 = .ok (.ireturn, 1) := by decide +kernel
theorem dX11_turn_48 : decode cX11_turn 48 = .ok (.iload_n 3, 1) := by decide +kernel
theorem dX11_turn_49 : decode cX11_turn 49 = .ok (.bipush 9, 2) := by decide +kernel
theorem dX11_turn_51 : decode cX11_turn 51 = .ok (.if_icmp .le 10, 3) := by decide +kernel
theorem dX11_turn_54 : decode cX11_turn 54 = .ok (.aload_n 0, 1) := by decide +kernel
theorem dX11_turn_55 : decode cX11_turn 55 = .ok (.bipush (-6), 2) := by decide +kernel
theorem dX11_turn_57 : decode cX11_turn 57 = .ok (.invokevirtual 72, 3) := by decide +kernel
theorem dX11_turn_60 : decode cX11_turn 60 = .ok (.ireturn, 1) := by decide +kernel
theorem dX11_turn_61 : decode cX11_turn 61 = .ok (.bipush 10, 2) := by decide +kernel
theorem dX11_turn_63 : decode cX11_turn 63 = .ok (.aload_n 0, 1) := by decide +kernel
theorem dX11_turn_64 : decode cX11_turn 64 = .ok (.getfield 10, 3) := by decide +kernel
theorem dX11_turn_67 : decode cX11_turn 67 = .ok (.getfield 93, 3) := by decide +kernel
theorem dX11_turn_70 : decode cX11_turn 70 = .ok (.getfield 103, 3) := by decide +kernel
theorem dX11_turn_73 : decode cX11_turn 73 = .ok (.iload_n 1, 1) := by decide +kernel
theorem dX11_turn_74 : decode cX11_turn 74 = .ok (.iaload, 1) := by decide +kernel
theorem dX11_turn_75 : decode cX11_turn 75 = .ok (.imul, 1) := by decide +kernel
theorem dX11_turn_76 : decode cX11_turn 76 = .ok (.aload_n 0, 1) := by decide +kernel
theorem dX11_turn_77 : decode cX11_turn 77 = .ok (.getfield 10, 3) := by decide +kernel
theorem dX11_turn_80 : decode cX11_turn 80 = .ok (.getfield 93, 3) := by decide +kernel
theorem dX11_turn_83 : decode cX11_turn 83 = .ok (.getfield 106, 3) := by decide +kernel
theorem dX11_turn_86 : decode cX11_turn 86 = .ok (.iload_n 1, 1) := by decide +kernel
theorem dX11_turn_87 : decode cX11_turn 87 = .ok (.iaload, 1) := by decide +kernel
theorem dX11_turn_88 : decode cX11_turn 88 = .ok (.iadd, 1) := by decide +kernel
theorem dX11_turn_89 : decode cX11_turn 89 = .ok (.istore 4, 2) := by decide +kernel
theorem dX11_turn_91 : decode cX11_turn 91 = .ok (.aload_n 0, 1) := by decide +kernel
theorem dX11_turn_92 : decode cX11_turn 92 = .ok (.getfield 10, 3) := by decide +kernel
theorem dX11_turn_95 : decode cX11_turn 95 = .ok (.getfield 93, 3) := by decide +kernel
theorem dX11_turn_98 : decode cX11_turn 98 = .ok (.iload_n 1, 1) := by decide +kernel
theorem dX11_turn_99 : decode cX11_turn 99 = .ok (.iload_n 2, 1) := by decide +kernel
theorem dX11_turn_100 : decode cX11_turn 100 = .ok (.iload_n 3, 1) := by decide +kernel
theorem dX11_turn_101 : decode cX11_turn 101 = .ok (.invokevirtual 130, 3) := by decide +kernel
theorem dX11_turn_104 : decode cX11_turn 104 = .ok (.iload 4, 2) := by decide +kernel
theorem dX11_turn_106 : decode cX11_turn 106 = .ok (.ireturn, 1) := by decide +kernel
theorem dX11_swap_0 : decode cX11_swap 0 = .ok (.aload_n 0, 1) := by decide +kernel
theorem dX11_swap_1 : decode cX11_swap 1 = .ok (.getfield 10, 3) := by decide +kernel
theorem dX11_swap_4 : decode cX11_swap 4 = .ok (.getfield 93, 3) := by decide +kernel
theorem dX11_swap_7 : decode cX11_swap 7 = .ok (.iload_n 1, 1) := by decide +kernel
theorem dX11_swap_8 : decode cX11_swap 8 = .ok (.invokevirtual 97, 3) := by decide +kernel
theorem dX11_swap_11 : decode cX11_swap 11 = .ok (.ifCond .eq 22, 3) := by decide +kernel
theorem dX11_swap_14 : decode cX11_swap 14 = .ok (.aload_n 0, 1) := by decide +kernel
theorem dX11_swap_15 : decode cX11_swap 15 = .ok (.getfield 10, 3) := by decide +kernel
theorem dX11_swap_18 : decode cX11_swap 18 = .ok (.getfield 93, 3) := by decide +kernel
theorem dX11_swap_21 : decode cX11_swap 21 = .ok (.iload_n 2, 1) := by decide +kernel
theorem dX11_swap_22 : decode cX11_swap 22 = .ok (.invokevirtual 97, 3) := by decide +kernel
theorem dX11_swap_25 : decode cX11_swap 25 = .ok (.ifCond .eq 8, 3) := by decide +kernel
theorem dX11_swap_28 : decode cX11_swap 28 = .ok (.iload_n 1, 1) := by decide +kernel
theorem dX11_swap_29 : decode cX11_swap 29 = .ok (.iload_n 2, 1) := by decide +kernel
theorem dX11_swap_30 : decode cX11_swap 30 = .ok (.if_icmp .ne 9, 3) := by decide +kernel
theorem dX11_swap_33 : decode cX11_swap 33 = .ok (.aload_n 0, 1) := by decide +kernel
theorem dX11_swap_34 : decode cX11_swap 34 = .ok (.iconst (-1), 1) := by decide +kernel
theorem dX11_swap_35 : decode cX11_swap 35 = .ok (.invokevirtual 72, 3) := by decide +kernel
theorem dX11_swap_38 : decode cX11_swap 38 = .ok (.ireturn, 1) := by decide +kernel
theorem dX11_swap_39 : decode cX11_swap 39 = .ok (.aload_n 0, 1) := by decide +kernel
theorem dX11_swap_40 : decode cX11_swap 40 = .ok (.getfield 10, 3) := by decide +kernel
theorem dX11_swap_43 : decode cX11_swap 43 = .ok (.getfield 93, 3) := by decide +kernel
theorem dX11_swap_46 : decode cX11_swap 46 = .ok (.iload_n 1, 1) := by decide +kernel
theorem dX11_swap_47 : decode cX11_swap 47 = .ok (.iload_n 2, 1) := by decide +kernel
theorem dX11_swap_48 : decode cX11_swap 48 = .ok (.invokevirtual 134, 3) := by decide +kernel
theorem dX11_swap_51 : decode cX11_swap 51 = .ok (.aload_n 0, 1) := by decide +kernel
theorem dX11_swap_52 : decode cX11_swap 52 = .ok (.getfield 10, 3) := by decide +kernel
theorem dX11_swap_55 : decode cX11_swap 55 = .ok (.getfield 93, 3) := by decide +kernel
theorem dX11_swap_58 : decode cX11_swap 58 = .ok (.getfield 138, 3) := by decide +kernel
theorem dX11_swap_61 : decode cX11_swap 61 = .ok (.ireturn, 1) := by decide +kernel
theorem dX11_skill_0 : decode cX11_skill 0 = .ok (.aload_n 0, 1) := by decide +kernel
theorem dX11_skill_1 : decode cX11_skill 1 = .ok (.getfield 10, 3) := by decide +kernel
theorem dX11_skill_4 : decode cX11_skill 4 = .ok (.iload_n 1, 1) := by decide +kernel
theorem dX11_skill_5 : decode cX11_skill 5 = .ok (.invokevirtual 117, 3) := by decide +kernel
theorem dX11_skill_8 : decode cX11_skill 8 = .ok (.ifCond .ne 9, 3) := by decide +kernel
theorem dX11_skill_11 : decode cX11_skill 11 = .ok (.aload_n 0, 1) := by decide +kernel
theorem dX11_skill_12 : decode cX11_skill 12 = .ok (.iconst (-1), 1) := by decide +kernel
theorem dX11_skill_13 : decode cX11_skill 13 = .ok (.invokevirtual 72, 3) := by decide +kernel
theorem dX11_skill_16 : decode cX11_skill 16 = .ok (.ireturn, 1) := by decide +kernel
theorem dX11_skill_17 : decode cX11_skill 17 = .ok (.iload_n 2, 1) := by decide +kernel
theorem dX11_skill_18 : decode cX11_skill 18 = .ok (.ifCond .lt 8, 3) := by decide +kernel
theorem dX11_skill_21 : decode cX11_skill 21 = .ok (.iload_n 2, 1) := by decide +kernel
theorem dX11_skill_22 : decode cX11_skill 22 = .ok (.iconst 3, 1) := by decide +kernel
theorem dX11_skill_23 : decode cX11_skill 23 = .ok (.if_icmp .le 10, 3) := by decide +kernel
theorem dX11_skill_26 : decode cX11_skill 26 = .ok (.aload_n 0, 1) := by decide +kernel
theorem dX11_skill_27 : decode cX11_skill 27 = .ok (.bipush (-2), 2) := by decide +kernel
theorem dX11_skill_29 : decode cX11_skill 29 = .ok (.invokevirtual 72, 3) := by decide +kernel
theorem dX11_skill_32 : decode cX11_skill 32 = .ok (.ireturn, 1) := by decide +kernel
theorem dX11_skill_33 : decode cX11_skill 33 = .ok (.iload_n 3, 1) := by decide +kernel
theorem dX11_skill_34 : decode cX11_skill 34 = .ok (.ifCond .ge 10, 3) := by decide +kernel
theorem dX11_skill_37 : decode cX11_skill 37 = .ok (.aload_n 0, 1) := by decide +kernel
theorem dX11_skill_38 : decode cX11_skill 38 = .ok (.bipush (-4), 2) := by decide +kernel
theorem dX11_skill_40 : decode cX11_skill 40 = .ok (.invokevirtual 72, 3) := by decide +kernel
theorem dX11_skill_43 : decode cX11_skill 43 = .ok (.ireturn, 1) := by decide +kernel
theorem dX11_skill_44 : decode cX11_skill 44 = .ok (.iload_n 3, 1) := by decide +kernel
theorem dX11_skill_45 : decode cX11_skill 45 = .ok (.iload_n 2, 1) := by decide +kernel
theorem dX11_skill_46 : decode cX11_skill 46 = .ok (.iconst 3, 1) := by decide +kernel
theorem dX11_skill_47 : decode cX11_skill 47 = .ok (.if_icmp .ne 8, 3) := by decide +kernel
theorem dX11_skill_50 : decode cX11_skill 50 = .ok (.bipush 99, 2) := by decide +kernel
theorem dX11_skill_52 : decode cX11_skill 52 = .ok (.goto 5, 3) := by decide +kernel
theorem dX11_skill_55 : decode cX11_skill 55 = .ok (.bipush 9, 2) := by decide +kernel
theorem dX11_skill_57 : decode cX11_skill 57 = .ok (.if_icmp .le 10, 3) := by decide +kernel
theorem dX11_skill_60 : decode cX11_skill 60 = .ok (.aload_n 0, 1) := by decide +kernel
theorem dX11_skill_61 : decode cX11_skill 61 = .ok (.bipush (-6), 2) := by decide +kernel
theorem dX11_skill_63 : decode cX11_skill 63 = .ok (.invokevirtual 72, 3) := by decide +kernel
theorem dX11_skill_66 : decode cX11_skill 66 = .ok (.ireturn, 1) := by decide +kernel
theorem dX11_skill_67 : decode cX11_skill 67 = .ok (.aload_n 0, 1) := by decide +kernel
theorem dX11_skill_68 : decode cX11_skill 68 = .ok (.getfield 10, 3) := by decide +kernel
theorem dX11_skill_71 : decode cX11_skill 71 = .ok (.getfield 118, 3) := by decide +kernel
theorem dX11_skill_74 : decode cX11_skill 74 = .ok (.iload_n 1, 1) := by decide +kernel
theorem dX11_skill_75 : decode cX11_skill 75 = .ok (.aaload, 1) := by decide +kernel
theorem dX11_skill_76 : decode cX11_skill 76 = .ok (.getfield 122, 3) := by decide +kernel
theorem dX11_skill_79 : decode cX11_skill 79 = .ok (.iload_n 2, 1) := by decide +kernel
theorem dX11_skill_80 : decode cX11_skill 80 = .ok (.iaload, 1) := by decide +kernel
theorem dX11_skill_81 : decode cX11_skill 81 = .ok (.istore 4, 2) := by decide +kernel
theorem dX11_skill_83 : decode cX11_skill 83 = .ok (.aload_n 0, 1) := by decide +kernel
theorem dX11_skill_84 : decode cX11_skill 84 = .ok (.getfield 10, 3) := by decide +kernel
theorem dX11_skill_87 : decode cX11_skill 87 = .ok (.getfield 118, 3) := by decide +kernel
theorem dX11_skill_90 : decode cX11_skill 90 = .ok (.iload_n 1, 1) := by decide +kernel
theorem dX11_skill_91 : decode cX11_skill 91 = .ok (.aaload, 1) := by decide +kernel
theorem dX11_skill_92 : decode cX11_skill 92 = .ok (.getfield 122, 3) := by decide +kernel
theorem dX11_skill_95 : decode cX11_skill 95 = .ok (.iload_n 2, 1) := by decide +kernel
theorem dX11_skill_96 : decode cX11_skill 96 = .ok (.iload_n 3, 1) := by decide +kernel
theorem dX11_skill_97 : decode cX11_skill 97 = .ok (.iastore, 1) := by decide +kernel
theorem dX11_skill_98 : decode cX11_skill 98 = .ok (.iload 4, 2) := by decide +kernel
theorem dX11_skill_100 : decode cX11_skill 100 = .ok (.ireturn, 1) := by decide +kernel
theorem dX11_tryHard_0 : decode cX11_tryHard 0 = .ok (.aload_n 0, 1) := by decide +kernel
theorem dX11_tryHard_1 : decode cX11_tryHard 1 = .ok (.getfield 10, 3) := by decide +kernel
theorem dX11_tryHard_4 : decode cX11_tryHard 4 = .ok (.iload_n 1, 1) := by decide +kernel
theorem dX11_tryHard_5 : decode cX11_tryHard 5 = .ok (.invokevirtual 117, 3) := by decide +kernel
theorem dX11_tryHard_8 : decode cX11_tryHard 8 = .ok (.ifCond .eq 17, 3) := by decide +kernel
theorem dX11_tryHard_11 : decode cX11_tryHard 11 = .ok (.aload_n 0, 1) := by decide +kernel
theorem dX11_tryHard_12 : decode cX11_tryHard 12 = .ok (.getfield 10, 3) := by decide +kernel
theorem dX11_tryHard_15 : decode cX11_tryHard 15 = .ok (.getfield 93, 3) := by decide +kernel
theorem dX11_tryHard_18 : decode cX11_tryHard 18 = .ok (.iload_n 2, 1) := by decide +kernel
theorem dX11_tryHard_19 : decode cX11_tryHard 19 = .ok (.invokevirtual 97, 3) := by decide +kernel
theorem dX11_tryHard_22 : decode cX11_tryHard 22 = .ok (.ifCond .ne 9, 3) := by decide +kernel
theorem dX11_tryHard_25 : decode cX11_tryHard 25 = .ok (.aload_n 0, 1) := by decide +kernel
theorem dX11_tryHard_26 : decode cX11_tryHard 26 = .ok (.iconst (-1), 1) := by decide +kernel
theorem dX11_tryHard_27 : decode cX11_tryHard 27 = .ok (.invokevirtual 72, 3) := by decide +kernel
theorem dX11_tryHard_30 : decode cX11_tryHard 30 = .ok (.ireturn, 1) := by decide +kernel
theorem dX11_tryHard_31 : decode cX11_tryHard 31 = .ok (.iload_n 3, 1) := by decide +kernel
theorem dX11_tryHard_32 : decode cX11_tryHard 32 = .ok (.ifCond .ge 10, 3) := by decide +kernel
theorem dX11_tryHard_35 : decode cX11_tryHard 35 = .ok (.aload_n 0, 1) := by decide +kernel
theorem dX11_tryHard_36 : decode cX11_tryHard 36 = .ok (.bipush (-4), 2) := by decide +kernel
theorem dX11_tryHard_38 : decode cX11_tryHard 38 = .ok (.invokevirtual 72, 3) := by decide +kernel
theorem dX11_tryHard_41 : decode cX11_tryHard 41 = .ok (.ireturn, 1) := by decide +kernel
theorem dX11_tryHard_42 : decode cX11_tryHard 42 = .ok (.iload_n 3, 1) := by decide +kernel
theorem dX11_tryHard_43 : decode cX11_tryHard 43 = .ok (.iconst 3, 1) := by decide +kernel
theorem dX11_tryHard_44 : decode cX11_tryHard 44 = .ok (.if_icmp .le 10, 3) := by decide +kernel
theorem dX11_tryHard_47 : decode cX11_tryHard 47 = .ok (.aload_n 0, 1) := by decide +kernel
theorem dX11_tryHard_48 : decode cX11_tryHard 48 = .ok (.bipush (-6), 2) := by decide +kernel
theorem dX11_tryHard_50 : decode cX11_tryHard 50 = .ok (.invokevirtual 72, 3) := by decide +kernel
theorem dX11_tryHard_53 : decode cX11_tryHard 53 = .ok (.ireturn, 1) := by decide +kernel
theorem dX11_tryHard_54 : decode cX11_tryHard 54 = .ok (.aload_n 0, 1) := by decide +kernel
theorem dX11_tryHard_55 : decode cX11_tryHard 55 = .ok (.getfield 10, 3) := by decide +kernel
theorem dX11_tryHard_58 : decode cX11_tryHard 58 = .ok (.getfield 118, 3) := by decide +kernel
theorem dX11_tryHard_61 : decode cX11_tryHard 61 = .ok (.iload_n 1, 1) := by decide +kernel
theorem dX11_tryHard_62 : decode cX11_tryHard 62 = .ok (.aaload, 1) := by decide +kernel
theorem dX11_tryHard_63 : decode cX11_tryHard 63 = .ok (.getfield 127, 3) := by decide +kernel
theorem dX11_tryHard_66 : decode cX11_tryHard 66 = .ok (.iload_n 2, 1) := by decide +kernel
theorem dX11_tryHard_67 : decode cX11_tryHard 67 = .ok (.iaload, 1) := by decide +kernel
theorem dX11_tryHard_68 : decode cX11_tryHard 68 = .ok (.istore 4, 2) := by decide +kernel
theorem dX11_tryHard_70 : decode cX11_tryHard 70 = .ok (.aload_n 0, 1) := by decide +kernel
theorem dX11_tryHard_71 : decode cX11_tryHard 71 = .ok (.getfield 10, 3) := by decide +kernel
theorem dX11_tryHard_74 : decode cX11_tryHard 74 = .ok (.getfield 118, 3) := by decide +kernel
theorem dX11_tryHard_77 : decode cX11_tryHard 77 = .ok (.iload_n 1, 1) := by decide +kernel
theorem dX11_tryHard_78 : decode cX11_tryHard 78 = .ok (.aaload, 1) := by decide +kernel
theorem dX11_tryHard_79 : decode cX11_tryHard 79 = .ok (.getfield 127, 3) := by decide +kernel
theorem dX11_tryHard_82 : decode cX11_tryHard 82 = .ok (.iload_n 2, 1) := by decide +kernel
theorem dX11_tryHard_83 : decode cX11_tryHard 83 = .ok (.iload_n 3, 1) := by decide +kernel
theorem dX11_tryHard_84 : decode cX11_tryHard 84 = .ok (.iastore, 1) := by decide +kernel
theorem dX11_tryHard_85 : decode cX11_tryHard 85 = .ok (.iload 4, 2) := by decide +kernel
theorem dX11_tryHard_87 : decode cX11_tryHard 87 = .ok (.ireturn, 1) := by decide +kernel
theorem dX11_by_0 : decode cX11_by 0 = .ok (.aload_n 0, 1) := by decide +kernel
theorem dX11_by_1 : decode cX11_by 1 = .ok (.getfield 10, 3) := by decide +kernel
theorem dX11_by_4 : decode cX11_by 4 = .ok (.iload_n 1, 1) := by decide +kernel
theorem dX11_by_5 : decode cX11_by 5 = .ok (.invokevirtual 117, 3) := by decide +kernel
theorem dX11_by_8 : decode cX11_by 8 = .ok (.ifCond .eq 17, 3) := by decide +kernel
theorem dX11_by_11 : decode cX11_by 11 = .ok (.aload_n 0, 1) := by decide +kernel
theorem dX11_by_12 : decode cX11_by 12 = .ok (.getfield 10, 3) := by decide +kernel
theorem dX11_by_15 : decode cX11_by 15 = .ok (.getfield 93, 3) := by decide +kernel
theorem dX11_by_18 : decode cX11_by 18 = .ok (.iload_n 2, 1) := by decide +kernel
theorem dX11_by_19 : decode cX11_by 19 = .ok (.invokevirtual 97, 3) := by decide +kernel
theorem dX11_by_22 : decode cX11_by 22 = .ok (.ifCond .ne 9, 3) := by decide +kernel
theorem dX11_by_25 : decode cX11_by 25 = .ok (.aload_n 0, 1) := by decide +kernel
theorem dX11_by_26 : decode cX11_by 26 = .ok (.iconst (-1), 1) := by decide +kernel
theorem dX11_by_27 : decode cX11_by 27 = .ok (.invokevirtual 72, 3) := by decide +kernel
theorem dX11_by_30 : decode cX11_by 30 = .ok (.ireturn, 1) := by decide +kernel
theorem dX11_by_31 : decode cX11_by 31 = .ok (.iload_n 3, 1) := by decide +kernel
theorem dX11_by_32 : decode cX11_by 32 = .ok (.ifCond .lt 8, 3) := by decide +kernel
theorem dX11_by_35 : decode cX11_by 35 = .ok (.iload_n 3, 1) := by decide +kernel
theorem dX11_by_36 : decode cX11_by 36 = .ok (.iconst 2, 1) := by decide +kernel
theorem dX11_by_37 : decode cX11_by 37 = .ok (.if_icmp .le 10, 3) := by decide +kernel
theorem dX11_by_40 : decode cX11_by 40 = .ok (.aload_n 0, 1) := by decide +kernel
theorem dX11_by_41 : decode cX11_by 41 = .ok (.bipush (-2), 2) := by decide +kernel
theorem dX11_by_43 : decode cX11_by 43 = .ok (.invokevirtual 72, 3) := by decide +kernel
theorem dX11_by_46 : decode cX11_by 46 = .ok (.ireturn, 1) := by decide +kernel
theorem dX11_by_47 : decode cX11_by 47 = .ok (.aload_n 0, 1) := by decide +kernel
theorem dX11_by_48 : decode cX11_by 48 = .ok (.iload_n 1, 1) := by decide +kernel
theorem dX11_by_49 : decode cX11_by 49 = .ok (.invokevirtual 142, 3) := by decide +kernel
theorem dX11_by_52 : decode cX11_by 52 = .ok (.pop, 1) := by decide +kernel
theorem dX11_by_53 : decode cX11_by 53 = .ok (.iload_n 3, 1) := by decide +kernel
theorem dX11_by_54 : decode cX11_by 54 = .ok (.ifCond .ne 13, 3) := by decide +kernel
theorem dX11_by_57 : decode cX11_by 57 = .ok (.aload_n 0, 1) := by decide +kernel
theorem dX11_by_58 : decode cX11_by 58 = .ok (.getfield 44, 3) := by decide +kernel
theorem dX11_by_61 : decode cX11_by 61 = .ok (.getfield 145, 3) := by decide +kernel
theorem dX11_by_64 : decode cX11_by 64 = .ok (.iload_n 2, 1) := by decide +kernel
theorem dX11_by_65 : decode cX11_by 65 = .ok (.iaload, 1) := by decide +kernel
theorem dX11_by_66 : decode cX11_by 66 = .ok (.ireturn, 1) := by decide +kernel
theorem dX11_by_67 : decode cX11_by 67 = .ok (.iload_n 3, 1) := by decide +kernel
theorem dX11_by_68 : decode cX11_by 68 = .ok (.iconst 1, 1) := by decide +kernel
theorem dX11_by_69 : decode cX11_by 69 = .ok (.if_icmp .ne 15, 3) := by decide +kernel
theorem dX11_by_72 : decode cX11_by 72 = .ok (.aload_n 0, 1) := by decide +kernel
theorem dX11_by_73 : decode cX11_by 73 = .ok (.getfield 44, 3) := by decide +kernel
theorem dX11_by_76 : decode cX11_by 76 = .ok (.getfield 148, 3) := by decide +kernel
theorem dX11_by_79 : decode cX11_by 79 = .ok (.iload_n 2, 1) := by decide +kernel
theorem dX11_by_80 : decode cX11_by 80 = .ok (.iaload, 1) := by decide +kernel
theorem dX11_by_81 : decode cX11_by 81 = .ok (.goto 12, 3) := by decide +kernel
theorem dX11_by_84 : decode cX11_by 84 = .ok (.aload_n 0, 1) := by decide +kernel
theorem dX11_by_85 : decode cX11_by 85 = .ok (.getfield 44, 3) := by decide +kernel
theorem dX11_by_88 : decode cX11_by 88 = .ok (.getfield 151, 3) := by decide +kernel
theorem dX11_by_91 : decode cX11_by 91 = .ok (.iload_n 2, 1) := by decide +kernel
theorem dX11_by_92 : decode cX11_by 92 = .ok (.iaload, 1) := by decide +kernel
theorem dX11_by_93 : decode cX11_by 93 = .ok (.ireturn, 1) := by decide +kernel
theorem dX11_finish_0 : decode cX11_finish 0 = .ok (.aload_n 0, 1) := by decide +kernel
theorem dX11_finish_1 : decode cX11_finish 1 = .ok (.getfield 10, 3) := by decide +kernel
theorem dX11_finish_4 : decode cX11_finish 4 = .ok (.iload_n 1, 1) := by decide +kernel
theorem dX11_finish_5 : decode cX11_finish 5 = .ok (.invokevirtual 117, 3) := by decide +kernel
theorem dX11_finish_8 : decode cX11_finish 8 = .ok (.ifCond .ne 9, 3) := by decide +kernel
theorem dX11_finish_11 : decode cX11_finish 11 = .ok (.aload_n 0, 1) := by decide +kernel
theorem dX11_finish_12 : decode cX11_finish 12 = .ok (.iconst (-1), 1) := by decide +kernel
theorem dX11_finish_13 : decode cX11_finish 13 = .ok (.invokevirtual 72, 3) := by decide +kernel
theorem dX11_finish_16 : decode cX11_finish 16 = .ok (.ireturn, 1) := by decide +kernel
theorem dX11_finish_17 : decode cX11_finish 17 = .ok (.iload_n 2, 1) := by decide +kernel
theorem dX11_finish_18 : decode cX11_finish 18 = .ok (.ifCond .lt 8, 3) := by decide +kernel
theorem dX11_finish_21 : decode cX11_finish 21 = .ok (.iload_n 2, 1) := by decide +kernel
theorem dX11_finish_22 : decode cX11_finish 22 = .ok (.iconst 2, 1) := by decide +kernel
theorem dX11_finish_23 : decode cX11_finish 23 = .ok (.if_icmp .le 10, 3) := by decide +kernel
theorem dX11_finish_26 : decode cX11_finish 26 = .ok (.aload_n 0, 1) := by decide +kernel
theorem dX11_finish_27 : decode cX11_finish 27 = .ok (.bipush (-2), 2) := by decide +kernel
theorem dX11_finish_29 : decode cX11_finish 29 = .ok (.invokevirtual 72, 3) := by decide +kernel
theorem dX11_finish_32 : decode cX11_finish 32 = .ok (.ireturn, 1) := by decide +kernel
theorem dX11_finish_33 : decode cX11_finish 33 = .ok (.aload_n 0, 1) := by decide +kernel
theorem dX11_finish_34 : decode cX11_finish 34 = .ok (.iload_n 1, 1) := by decide +kernel
theorem dX11_finish_35 : decode cX11_finish 35 = .ok (.invokevirtual 142, 3) := by decide +kernel
theorem dX11_finish_38 : decode cX11_finish 38 = .ok (.istore_n 3, 1) := by decide +kernel
theorem dX11_finish_39 : decode cX11_finish 39 = .ok (.iload_n 2, 1) := by decide +kernel
theorem dX11_finish_40 : decode cX11_finish 40 = .ok (.ifCond .ne 5, 3) := by decide +kernel
theorem dX11_finish_43 : decode cX11_finish 43 = .ok (.iload_n 3, 1) := by decide +kernel
theorem dX11_finish_44 : decode cX11_finish 44 = .ok (.ireturn, 1) := by decide +kernel
theorem dX11_finish_45 : decode cX11_finish 45 = .ok (.iload_n 2, 1) := by decide +kernel
theorem dX11_finish_46 : decode cX11_finish 46 = .ok (.iconst 1, 1) := by decide +kernel
theorem dX11_finish_47 : decode cX11_finish 47 = .ok (.if_icmp .ne 13, 3) := by decide +kernel
theorem dX11_finish_50 : decode cX11_finish 50 = .ok (.aload_n 0, 1) := by decide +kernel
theorem dX11_finish_51 : decode cX11_finish 51 = .ok (.getfield 44, 3) := by decide +kernel
theorem dX11_finish_54 : decode cX11_finish 54 = .ok (.invokevirtual 154, 3) := by decide +kernel
theorem dX11_finish_57 : decode cX11_finish 57 = .ok (.goto 8, 3) := by decide +kernel
theorem dX11_finish_60 : decode cX11_finish 60 = .ok (.aload_n 0, 1) := by decide +kernel
theorem dX11_finish_61 : decode cX11_finish 61 = .ok (.iload_n 3, 1) := by decide +kernel
theorem dX11_finish_62 : decode cX11_finish 62 = .ok (.invokevirtual 158, 3) := by decide +kernel
theorem dX11_finish_65 : decode cX11_finish 65 = .ok (.ireturn, 1) := by decide +kernel
theorem dX11_at_0 : decode cX11_at 0 = .ok (.aload_n 0, 1) := by decide +kernel
theorem dX11_at_1 : decode cX11_at 1 = .ok (.getfield 10, 3) := by decide +kernel
theorem dX11_at_4 : decode cX11_at 4 = .ok (.iload_n 1, 1) := by decide +kernel
theorem dX11_at_5 : decode cX11_at 5 = .ok (.invokevirtual 117, 3) := by decide +kernel
theorem dX11_at_8 : decode cX11_at 8 = .ok (.ifCond .ne 9, 3) := by decide +kernel
theorem dX11_at_11 : decode cX11_at 11 = .ok (.aload_n 0, 1) := by decide +kernel
theorem dX11_at_12 : decode cX11_at 12 = .ok (.iconst (-1), 1) := by decide +kernel
theorem dX11_at_13 : decode cX11_at 13 = .ok (.invokevirtual 72, 3) := by decide +kernel
theorem dX11_at_16 : decode cX11_at 16 = .ok (.ireturn, 1) := by decide +kernel
theorem dX11_at_17 : decode cX11_at 17 = .ok (.iload_n 2, 1) := by decide +kernel
theorem dX11_at_18 : decode cX11_at 18 = .ok (.ifCond .ge 10, 3) := by decide +kernel
theorem dX11_at_21 : decode cX11_at 21 = .ok (.aload_n 0, 1) := by decide +kernel
theorem dX11_at_22 : decode cX11_at 22 = .ok (.bipush (-4), 2) := by decide +kernel
theorem dX11_at_24 : decode cX11_at 24 = .ok (.invokevirtual 72, 3) := by decide +kernel
theorem dX11_at_27 : decode cX11_at 27 = .ok (.ireturn, 1) := by decide +kernel
theorem dX11_at_28 : decode cX11_at 28 = .ok (.iload_n 2, 1) := by decide +kernel
theorem dX11_at_29 : decode cX11_at 29 = .ok (.sipush 999, 3) := by decide +kernel
theorem dX11_at_32 : decode cX11_at 32 = .ok (.if_icmp .le 10, 3) := by decide +kernel
theorem dX11_at_35 : decode cX11_at 35 = .ok (.aload_n 0, 1) := by decide +kernel
theorem dX11_at_36 : decode cX11_at 36 = .ok (.bipush (-6), 2) := by decide +kernel
theorem dX11_at_38 : decode cX11_at 38 = .ok (.invokevirtual 72, 3) := by decide +kernel
theorem dX11_at_41 : decode cX11_at 41 = .ok (.ireturn, 1) := by decide +kernel
theorem dX11_at_42 : decode cX11_at 42 = .ok (.aload_n 0, 1) := by decide +kernel
theorem dX11_at_43 : decode cX11_at 43 = .ok (.iload_n 1, 1) := by decide +kernel
theorem dX11_at_44 : decode cX11_at 44 = .ok (.invokevirtual 142, 3) := by decide +kernel
theorem dX11_at_47 : decode cX11_at 47 = .ok (.pop, 1) := by decide +kernel
theorem dX11_at_48 : decode cX11_at 48 = .ok (.aload_n 0, 1) := by decide +kernel
theorem dX11_at_49 : decode cX11_at 49 = .ok (.getfield 44, 3) := by decide +kernel
theorem dX11_at_52 : decode cX11_at 52 = .ok (.iload_n 2, 1) := by decide +kernel
theorem dX11_at_53 : decode cX11_at 53 = .ok (.invokevirtual 161, 3) := by decide +kernel
theorem dX11_at_56 : decode cX11_at 56 = .ok (.ireturn, 1) := by decide +kernel
theorem dX11_overtakes_0 : decode cX11_overtakes 0 = .ok (.aload_n 0, 1) := by decide +kernel
theorem dX11_overtakes_1 : decode cX11_overtakes 1 = .ok (.getfield 10, 3) := by decide +kernel
theorem dX11_overtakes_4 : decode cX11_overtakes 4 = .ok (.iload_n 1, 1) := by decide +kernel
theorem dX11_overtakes_5 : decode cX11_overtakes 5 = .ok (.invokevirtual 117, 3) := by decide +kernel
theorem dX11_overtakes_8 : decode cX11_overtakes 8 = .ok (.ifCond .eq 19, 3) := by decide +kernel
theorem dX11_overtakes_11 : decode cX11_overtakes 11 = .ok (.aload_n 0, 1) := by decide +kernel
theorem dX11_overtakes_12 : decode cX11_overtakes 12 = .ok (.getfield 10, 3) := by decide +kernel
theorem dX11_overtakes_15 : decode cX11_overtakes 15 = .ok (.iload_n 2, 1) := by decide +kernel
theorem dX11_overtakes_16 : decode cX11_overtakes 16 = .ok (.invokevirtual 117, 3) := by decide +kernel
theorem dX11_overtakes_19 : decode cX11_overtakes 19 = .ok (.ifCond .eq 8, 3) := by decide +kernel
theorem dX11_overtakes_22 : decode cX11_overtakes 22 = .ok (.iload_n 1, 1) := by decide +kernel
theorem dX11_overtakes_23 : decode cX11_overtakes 23 = .ok (.iload_n 2, 1) := by decide +kernel
theorem dX11_overtakes_24 : decode cX11_overtakes 24 = .ok (.if_icmp .ne 9, 3) := by decide +kernel
theorem dX11_overtakes_27 : decode cX11_overtakes 27 = .ok (.aload_n 0, 1) := by decide +kernel
theorem dX11_overtakes_28 : decode cX11_overtakes 28 = .ok (.iconst (-1), 1) := by decide +kernel
theorem dX11_overtakes_29 : decode cX11_overtakes 29 = .ok (.invokevirtual 72, 3) := by decide +kernel
theorem dX11_overtakes_32 : decode cX11_overtakes 32 = .ok (.ireturn, 1) := by decide +kernel
theorem dX11_overtakes_33 : decode cX11_overtakes 33 = .ok (.iload_n 3, 1) := by decide +kernel
theorem dX11_overtakes_34 : decode cX11_overtakes 34 = .ok (.ifCond .lt 8, 3) := by decide +kernel
theorem dX11_overtakes_37 : decode cX11_overtakes 37 = .ok (.iload_n 3, 1) := by decide +kernel
theorem dX11_overtakes_38 : decode cX11_overtakes 38 = .ok (.iconst 1, 1) := by decide +kernel
theorem dX11_overtakes_39 : decode cX11_overtakes 39 = .ok (.if_icmp .le 10, 3) := by decide +kernel
theorem dX11_overtakes_42 : decode cX11_overtakes 42 = .ok (.aload_n 0, 1) := by decide +kernel
theorem dX11_overtakes_43 : decode cX11_overtakes 43 = .ok (.bipush (-2), 2) := by decide +kernel
theorem dX11_overtakes_45 : decode cX11_overtakes 45 = .ok (.invokevirtual 72, 3) := by decide +kernel
theorem dX11_overtakes_48 : decode cX11_overtakes 48 = .ok (.ireturn, 1) := by decide +kernel
theorem dX11_overtakes_49 : decode cX11_overtakes 49 = .ok (.aload_n 0, 1) := by decide +kernel
theorem dX11_overtakes_50 : decode cX11_overtakes 50 = .ok (.iload_n 1, 1) := by decide +kernel
theorem dX11_overtakes_51 : decode cX11_overtakes 51 = .ok (.invokevirtual 142, 3) := by decide +kernel
theorem dX11_overtakes_54 : decode cX11_overtakes 54 = .ok (.pop, 1) := by decide +kernel
theorem dX11_overtakes_55 : decode cX11_overtakes 55 = .ok (.aload_n 0, 1) := by decide +kernel
theorem dX11_overtakes_56 : decode cX11_overtakes 56 = .ok (.getfield 48, 3) := by decide +kernel
theorem dX11_overtakes_59 : decode cX11_overtakes 59 = .ok (.aload_n 0, 1) := by decide +kernel
theorem dX11_overtakes_60 : decode cX11_overtakes 60 = .ok (.getfield 10, 3) := by decide +kernel
theorem dX11_overtakes_63 : decode cX11_overtakes 63 = .ok (.getfield 93, 3) := by decide +kernel
theorem dX11_overtakes_66 : decode cX11_overtakes 66 = .ok (.aload_n 0, 1) := by decide +kernel
theorem dX11_overtakes_67 : decode cX11_overtakes 67 = .ok (.getfield 10, 3) := by decide +kernel
theorem dX11_overtakes_70 : decode cX11_overtakes 70 = .ok (.getfield 118, 3) := by decide +kernel
theorem dX11_overtakes_73 : decode cX11_overtakes 73 = .ok (.iload_n 2, 1) := by decide +kernel
theorem dX11_overtakes_74 : decode cX11_overtakes 74 = .ok (.aaload, 1) := by decide +kernel
theorem dX11_overtakes_75 : decode cX11_overtakes 75 = .ok (.invokevirtual 164, 3) := by decide +kernel
theorem dX11_overtakes_78 : decode cX11_overtakes 78 = .ok (.aload_n 0, 1) := by decide +kernel
theorem dX11_overtakes_79 : decode cX11_overtakes 79 = .ok (.getfield 48, 3) := by decide +kernel
theorem dX11_overtakes_82 : decode cX11_overtakes 82 = .ok (.invokevirtual 168, 3) := by decide +kernel
theorem dX11_overtakes_85 : decode cX11_overtakes 85 = .ok (.pop, 1) := by decide +kernel
theorem dX11_overtakes_86 : decode cX11_overtakes 86 = .ok (.iload_n 3, 1) := by decide +kernel
theorem dX11_overtakes_87 : decode cX11_overtakes 87 = .ok (.ifCond .ne 17, 3) := by decide +kernel
theorem dX11_overtakes_90 : decode cX11_overtakes 90 = .ok (.aload_n 0, 1) := by decide +kernel
theorem dX11_overtakes_91 : decode cX11_overtakes 91 = .ok (.getfield 44, 3) := by decide +kernel
theorem dX11_overtakes_94 : decode cX11_overtakes 94 = .ok (.aload_n 0, 1) := by decide +kernel
theorem dX11_overtakes_95 : decode cX11_overtakes 95 = .ok (.getfield 48, 3) := by decide +kernel
theorem dX11_overtakes_98 : decode cX11_overtakes 98 = .ok (.invokevirtual 171, 3) := by decide +kernel
theorem dX11_overtakes_101 : decode cX11_overtakes 101 = .ok (.goto 14, 3) := by decide +kernel
theorem dX11_overtakes_104 : decode cX11_overtakes 104 = .ok (.aload_n 0, 1) := by decide +kernel
theorem dX11_overtakes_105 : decode cX11_overtakes 105 = .ok (.getfield 44, 3) := by decide +kernel
theorem dX11_overtakes_108 : decode cX11_overtakes 108 = .ok (.aload_n 0, 1) := by decide +kernel
theorem dX11_overtakes_109 : decode cX11_overtakes 109 = .ok (.getfield 48, 3) := by decide +kernel
theorem dX11_overtakes_112 : decode cX11_overtakes 112 = .ok (.invokevirtual 175, 3) := by decide +kernel
theorem dX11_overtakes_115 : decode cX11_overtakes 115 = .ok (.ireturn, 1) := by decide +kernel
theorem dX11_bestPlan_0 : decode cX11_bestPlan 0 = .ok (.aload_n 0, 1) := by decide +kernel
theorem dX11_bestPlan_1 : decode cX11_bestPlan 1 = .ok (.getfield 10, 3) := by decide +kernel
theorem dX11_bestPlan_4 : decode cX11_bestPlan 4 = .ok (.iload_n 1, 1) := by decide +kernel
theorem dX11_bestPlan_5 : decode cX11_bestPlan 5 = .ok (.invokevirtual 117, 3) := by decide +kernel
theorem dX11_bestPlan_8 : decode cX11_bestPlan 8 = .ok (.ifCond .eq 22, 3) := by decide +kernel
theorem dX11_bestPlan_11 : decode cX11_bestPlan 11 = .ok (.iload_n 2, 1) := by decide +kernel
theorem dX11_bestPlan_12 : decode cX11_bestPlan 12 = .ok (.iconst (-1), 1) := by decide +kernel
theorem dX11_bestPlan_13 : decode cX11_bestPlan 13 = .ok (.if_icmp .eq 23, 3) := by decide +kernel
theorem dX11_bestPlan_16 : decode cX11_bestPlan 16 = .ok (.aload_n 0, 1) := by decide +kernel
theorem dX11_bestPlan_17 : decode cX11_bestPlan 17 = .ok (.getfield 10, 3) := by decide +kernel
theorem dX11_bestPlan_20 : decode cX11_bestPlan 20 = .ok (.getfield 93, 3) := by decide +kernel
theorem dX11_bestPlan_23 : decode cX11_bestPlan 23 = .ok (.iload_n 2, 1) := by decide +kernel
theorem dX11_bestPlan_24 : decode cX11_bestPlan 24 = .ok (.invokevirtual 97, 3) := by decide +kernel
theorem dX11_bestPlan_27 : decode cX11_bestPlan 27 = .ok (.ifCond .ne 9, 3) := by decide +kernel
theorem dX11_bestPlan_30 : decode cX11_bestPlan 30 = .ok (.aload_n 0, 1) := by decide +kernel
theorem dX11_bestPlan_31 : decode cX11_bestPlan 31 = .ok (.iconst (-1), 1) := by decide +kernel
theorem dX11_bestPlan_32 : decode cX11_bestPlan 32 = .ok (.invokevirtual 72, 3) := by decide +kernel
theorem dX11_bestPlan_35 : decode cX11_bestPlan 35 = .ok (.ireturn, 1) := by decide +kernel
theorem dX11_bestPlan_36 : decode cX11_bestPlan 36 = .ok (.aload_n 0, 1) := by decide +kernel
theorem dX11_bestPlan_37 : decode cX11_bestPlan 37 = .ok (.getfield 54, 3) := by decide +kernel
theorem dX11_bestPlan_40 : decode cX11_bestPlan 40 = .ok (.aload_n 0, 1) := by decide +kernel
theorem dX11_bestPlan_41 : decode cX11_bestPlan 41 = .ok (.getfield 10, 3) := by decide +kernel
theorem dX11_bestPlan_44 : decode cX11_bestPlan 44 = .ok (.getfield 93, 3) := by decide +kernel
theorem dX11_bestPlan_47 : decode cX11_bestPlan 47 = .ok (.aload_n 0, 1) := by decide +kernel
theorem dX11_bestPlan_48 : decode cX11_bestPlan 48 = .ok (.getfield 10, 3) := by decide +kernel
theorem dX11_bestPlan_51 : decode cX11_bestPlan 51 = .ok (.getfield 118, 3) := by decide +kernel
theorem dX11_bestPlan_54 : decode cX11_bestPlan 54 = .ok (.iload_n 1, 1) := by decide +kernel
theorem dX11_bestPlan_55 : decode cX11_bestPlan 55 = .ok (.aaload, 1) := by decide +kernel
theorem dX11_bestPlan_56 : decode cX11_bestPlan 56 = .ok (.invokevirtual 178, 3) := by decide +kernel
theorem dX11_bestPlan_59 : decode cX11_bestPlan 59 = .ok (.iload_n 2, 1) := by decide +kernel
theorem dX11_bestPlan_60 : decode cX11_bestPlan 60 = .ok (.iconst (-1), 1) := by decide +kernel
theorem dX11_bestPlan_61 : decode cX11_bestPlan 61 = .ok (.if_icmp .ne 13, 3) := by decide +kernel
theorem dX11_bestPlan_64 : decode cX11_bestPlan 64 = .ok (.aload_n 0, 1) := by decide +kernel
theorem dX11_bestPlan_65 : decode cX11_bestPlan 65 = .ok (.getfield 54, 3) := by decide +kernel
theorem dX11_bestPlan_68 : decode cX11_bestPlan 68 = .ok (.invokevirtual 181, 3) := by decide +kernel
theorem dX11_bestPlan_71 : decode cX11_bestPlan 71 = .ok (.goto 11, 3) := by decide +kernel
theorem dX11_bestPlan_74 : decode cX11_bestPlan 74 = .ok (.aload_n 0, 1) := by decide +kernel
theorem dX11_bestPlan_75 : decode cX11_bestPlan 75 = .ok (.getfield 54, 3) := by decide +kernel
theorem dX11_bestPlan_78 : decode cX11_bestPlan 78 = .ok (.iload_n 2, 1) := by decide +kernel
theorem dX11_bestPlan_79 : decode cX11_bestPlan 79 = .ok (.invokevirtual 184, 3) := by decide +kernel
theorem dX11_bestPlan_82 : decode cX11_bestPlan 82 = .ok (.ireturn, 1) := by decide +kernel
theorem dX11_hardest_0 : decode cX11_hardest 0 = .ok (.aload_n 0, 1) := by decide +kernel
theorem dX11_hardest_1 : decode cX11_hardest 1 = .ok (.getfield 10, 3) := by decide +kernel
theorem dX11_hardest_4 : decode cX11_hardest 4 = .ok (.iload_n 1, 1) := by decide +kernel
theorem dX11_hardest_5 : decode cX11_hardest 5 = .ok (.invokevirtual 117, 3) := by decide +kernel
theorem dX11_hardest_8 : decode cX11_hardest 8 = .ok (.ifCond .ne 9, 3) := by decide +kernel
theorem dX11_hardest_11 : decode cX11_hardest 11 = .ok (.aload_n 0, 1) := by decide +kernel
theorem dX11_hardest_12 : decode cX11_hardest 12 = .ok (.iconst (-1), 1) := by decide +kernel
theorem dX11_hardest_13 : decode cX11_hardest 13 = .ok (.invokevirtual 72, 3) := by decide +kernel
theorem dX11_hardest_16 : decode cX11_hardest 16 = .ok (.ireturn, 1) := by decide +kernel
theorem dX11_hardest_17 : decode cX11_hardest 17 = .ok (.aload_n 0, 1) := by decide +kernel
theorem dX11_hardest_18 : decode cX11_hardest 18 = .ok (.getfield 44, 3) := by decide +kernel
theorem dX11_hardest_21 : decode cX11_hardest 21 = .ok (.aload_n 0, 1) := by decide +kernel
theorem dX11_hardest_22 : decode cX11_hardest 22 = .ok (.getfield 10, 3) := by decide +kernel
theorem dX11_hardest_25 : decode cX11_hardest 25 = .ok (.getfield 93, 3) := by decide +kernel
theorem dX11_hardest_28 : decode cX11_hardest 28 = .ok (.aload_n 0, 1) := by decide +kernel
theorem dX11_hardest_29 : decode cX11_hardest 29 = .ok (.getfield 10, 3) := by decide +kernel
theorem dX11_hardest_32 : decode cX11_hardest 32 = .ok (.getfield 118, 3) := by decide +kernel
theorem dX11_hardest_35 : decode cX11_hardest 35 = .ok (.iload_n 1, 1) := by decide +kernel
theorem dX11_hardest_36 : decode cX11_hardest 36 = .ok (.aaload, 1) := by decide +kernel
theorem dX11_hardest_37 : decode cX11_hardest 37 = .ok (.invokevirtual 164, 3) := by decide +kernel
theorem dX11_hardest_40 : decode cX11_hardest 40 = .ok (.iconst 3, 1) := by decide +kernel
theorem dX11_hardest_41 : decode cX11_hardest 41 = .ok (.istore_n 2, 1) := by decide +kernel
theorem dX11_hardest_42 : decode cX11_hardest 42 = .ok (.iload_n 2, 1) := by decide +kernel
theorem dX11_hardest_43 : decode cX11_hardest 43 = .ok (.ifCond .lt 37, 3) := by decide +kernel
theorem dX11_hardest_46 : decode cX11_hardest 46 = .ok (.aload_n 0, 1) := by decide +kernel
theorem dX11_hardest_47 : decode cX11_hardest 47 = .ok (.getfield 44, 3) := by decide +kernel
theorem dX11_hardest_50 : decode cX11_hardest 50 = .ok (.iload_n 2, 1) := by decide +kernel
theorem dX11_hardest_51 : decode cX11_hardest 51 = .ok (.invokevirtual 187, 3) := by decide +kernel
theorem dX11_hardest_54 : decode cX11_hardest 54 = .ok (.aload_n 0, 1) := by decide +kernel
theorem dX11_hardest_55 : decode cX11_hardest 55 = .ok (.getfield 44, 3) := by decide +kernel
theorem dX11_hardest_58 : decode cX11_hardest 58 = .ok (.invokevirtual 168, 3) := by decide +kernel
theorem dX11_hardest_61 : decode cX11_hardest 61 = .ok (.pop, 1) := by decide +kernel
theorem dX11_hardest_62 : decode cX11_hardest 62 = .ok (.aload_n 0, 1) := by decide +kernel
theorem dX11_hardest_63 : decode cX11_hardest 63 = .ok (.getfield 44, 3) := by decide +kernel
theorem dX11_hardest_66 : decode cX11_hardest 66 = .ok (.invokevirtual 191, 3) := by decide +kernel
theorem dX11_hardest_69 : decode cX11_hardest 69 = .ok (.ifCond .le 5, 3) := by decide +kernel
theorem dX11_hardest_72 : decode cX11_hardest 72 = .ok (.iload_n 2, 1) := by decide +kernel
theorem dX11_hardest_73 : decode cX11_hardest 73 = .ok (.ireturn, 1) := by decide +kernel
theorem dX11_hardest_74 : decode cX11_hardest 74 = .ok (.iinc 2 (-1), 3) := by decide +kernel
theorem dX11_hardest_77 : decode cX11_hardest 77 = .ok (.goto (-35), 3) := by decide +kernel
theorem dX11_hardest_80 : decode cX11_hardest 80 = .ok (.bipush (-9), 2) := by decide +kernel
theorem dX11_hardest_82 : decode cX11_hardest 82 = .ok (.ireturn, 1) := by decide +kernel
theorem dX11_leastTries_0 : decode cX11_leastTries 0 = .ok (.aload_n 0, 1) := by decide +kernel
theorem dX11_leastTries_1 : decode cX11_leastTries 1 = .ok (.getfield 10, 3) := by decide +kernel
theorem dX11_leastTries_4 : decode cX11_leastTries 4 = .ok (.iload_n 1, 1) := by decide +kernel
theorem dX11_leastTries_5 : decode cX11_leastTries 5 = .ok (.invokevirtual 117, 3) := by decide +kernel
theorem dX11_leastTries_8 : decode cX11_leastTries 8 = .ok (.ifCond .ne 9, 3) := by decide +kernel
theorem dX11_leastTries_11 : decode cX11_leastTries 11 = .ok (.aload_n 0, 1) := by decide +kernel
theorem dX11_leastTries_12 : decode cX11_leastTries 12 = .ok (.iconst (-1), 1) := by decide +kernel
theorem dX11_leastTries_13 : decode cX11_leastTries 13 = .ok (.invokevirtual 72, 3) := by decide +kernel
theorem dX11_leastTries_16 : decode cX11_leastTries 16 = .ok (.ireturn, 1) := by decide +kernel
theorem dX11_leastTries_17 : decode cX11_leastTries 17 = .ok (.iload_n 2, 1) := by decide +kernel
theorem dX11_leastTries_18 : decode cX11_leastTries 18 = .ok (.ifCond .ge 10, 3) := by decide +kernel
theorem dX11_leastTries_21 : decode cX11_leastTries 21 = .ok (.aload_n 0, 1) := by decide +kernel
theorem dX11_leastTries_22 : decode cX11_leastTries 22 = .ok (.bipush (-4), 2) := by decide +kernel
theorem dX11_leastTries_24 : decode cX11_leastTries 24 = .ok (.invokevirtual 72, 3) := by decide +kernel
theorem dX11_leastTries_27 : decode cX11_leastTries 27 = .ok (.ireturn, 1) := by decide +kernel
theorem dX11_leastTries_28 : decode cX11_leastTries 28 = .ok (.iload_n 2, 1) := by decide +kernel
theorem dX11_leastTries_29 : decode cX11_leastTries 29 = .ok (.sipush 999, 3) := by decide +kernel
theorem dX11_leastTries_32 : decode cX11_leastTries 32 = .ok (.if_icmp .le 10, 3) := by decide +kernel
theorem dX11_leastTries_35 : decode cX11_leastTries 35 = .ok (.aload_n 0, 1) := by decide +kernel
theorem dX11_leastTries_36 : decode cX11_leastTries 36 = .ok (.bipush (-6), 2) := by decide +kernel
theorem dX11_leastTries_38 : decode cX11_leastTries 38 = .ok (.invokevirtual 72, 3) := by decide +kernel
theorem dX11_leastTries_41 : decode cX11_leastTries 41 = .ok (.ireturn, 1) := by decide +kernel
theorem dX11_leastTries_42 : decode cX11_leastTries 42 = .ok (.aload_n 0, 1) := by decide +kernel
theorem dX11_leastTries_43 : decode cX11_leastTries 43 = .ok (.getfield 54, 3) := by decide +kernel
theorem dX11_leastTries_46 : decode cX11_leastTries 46 = .ok (.aload_n 0, 1) := by decide +kernel
theorem dX11_leastTries_47 : decode cX11_leastTries 47 = .ok (.getfield 10, 3) := by decide +kernel
theorem dX11_leastTries_50 : decode cX11_leastTries 50 = .ok (.getfield 93, 3) := by decide +kernel
theorem dX11_leastTries_53 : decode cX11_leastTries 53 = .ok (.aload_n 0, 1) := by decide +kernel
theorem dX11_leastTries_54 : decode cX11_leastTries 54 = .ok (.getfield 10, 3) := by decide +kernel
theorem dX11_leastTries_57 : decode cX11_leastTries 57 = .ok (.getfield 118, 3) := by decide +kernel
theorem dX11_leastTries_60 : decode cX11_leastTries 60 = .ok (.iload_n 1, 1) := by decide +kernel
theorem dX11_leastTries_61 : decode cX11_leastTries 61 = .ok (.aaload, 1) := by decide +kernel
theorem dX11_leastTries_62 : decode cX11_leastTries 62 = .ok (.invokevirtual 178, 3) := by decide +kernel
theorem dX11_leastTries_65 : decode cX11_leastTries 65 = .ok (.aload_n 0, 1) := by decide +kernel
theorem dX11_leastTries_66 : decode cX11_leastTries 66 = .ok (.getfield 54, 3) := by decide +kernel
theorem dX11_leastTries_69 : decode cX11_leastTries 69 = .ok (.iload_n 2, 1) := by decide +kernel
theorem dX11_leastTries_70 : decode cX11_leastTries 70 = .ok (.invokevirtual 194, 3) := by decide +kernel
theorem dX11_leastTries_73 : decode cX11_leastTries 73 = .ok (.ireturn, 1) := by decide +kernel
theorem dX11_drink_0 : decode cX11_drink 0 = .ok (.aload_n 0, 1) := by decide +kernel
theorem dX11_drink_1 : decode cX11_drink 1 = .ok (.getfield 10, 3) := by decide +kernel
theorem dX11_drink_4 : decode cX11_drink 4 = .ok (.iload_n 1, 1) := by decide +kernel
theorem dX11_drink_5 : decode cX11_drink 5 = .ok (.invokevirtual 117, 3) := by decide +kernel
theorem dX11_drink_8 : decode cX11_drink 8 = .ok (.ifCond .ne 9, 3) := by decide +kernel
theorem dX11_drink_11 : decode cX11_drink 11 = .ok (.aload_n 0, 1) := by decide +kernel
theorem dX11_drink_12 : decode cX11_drink 12 = .ok (.iconst (-1), 1) := by decide +kernel
theorem dX11_drink_13 : decode cX11_drink 13 = .ok (.invokevirtual 72, 3) := by decide +kernel
theorem dX11_drink_16 : decode cX11_drink 16 = .ok (.ireturn, 1) := by decide +kernel
theorem dX11_drink_17 : decode cX11_drink 17 = .ok (.iload_n 2, 1) := by decide +kernel
theorem dX11_drink_18 : decode cX11_drink 18 = .ok (.ifCond .lt 8, 3) := by decide +kernel
theorem dX11_drink_21 : decode cX11_drink 21 = .ok (.iload_n 2, 1) := by decide +kernel
theorem dX11_drink_22 : decode cX11_drink 22 = .ok (.iconst 1, 1) := by decide +kernel
theorem dX11_drink_23 : decode cX11_drink 23 = .ok (.if_icmp .le 10, 3) := by decide +kernel
theorem dX11_drink_26 : decode cX11_drink 26 = .ok (.aload_n 0, 1) := by decide +kernel
theorem dX11_drink_27 : decode cX11_drink 27 = .ok (.bipush (-2), 2) := by decide +kernel
theorem dX11_drink_29 : decode cX11_drink 29 = .ok (.invokevirtual 72, 3) := by decide +kernel
theorem dX11_drink_32 : decode cX11_drink 32 = .ok (.ireturn, 1) := by decide +kernel
theorem dX11_drink_33 : decode cX11_drink 33 = .ok (.aload_n 0, 1) := by decide +kernel
theorem dX11_drink_34 : decode cX11_drink 34 = .ok (.iload_n 1, 1) := by decide +kernel
theorem dX11_drink_35 : decode cX11_drink 35 = .ok (.invokevirtual 142, 3) := by decide +kernel
theorem dX11_drink_38 : decode cX11_drink 38 = .ok (.istore_n 3, 1) := by decide +kernel
theorem dX11_drink_39 : decode cX11_drink 39 = .ok (.bipush (-9), 2) := by decide +kernel
theorem dX11_drink_41 : decode cX11_drink 41 = .ok (.istore 4, 2) := by decide +kernel
theorem dX11_drink_43 : decode cX11_drink 43 = .ok (.iconst 0, 1) := by decide +kernel
theorem dX11_drink_44 : decode cX11_drink 44 = .ok (.istore 5, 2) := by decide +kernel
theorem dX11_drink_46 : decode cX11_drink 46 = .ok (.iload 5, 2) := by decide +kernel
theorem dX11_drink_48 : decode cX11_drink 48 = .ok (.aload_n 0, 1) := by decide +kernel
theorem dX11_drink_49 : decode cX11_drink 49 = .ok (.getfield 10, 3) := by decide +kernel
theorem dX11_drink_52 : decode cX11_drink 52 = .ok (.getfield 93, 3) := by decide +kernel
theorem dX11_drink_55 : decode cX11_drink 55 = .ok (.getfield 138, 3) := by decide +kernel
theorem dX11_drink_58 : decode cX11_drink 58 = .ok (.if_icmp .ge 40, 3) := by decide +kernel
theorem dX11_drink_61 : decode cX11_drink 61 = .ok (.aload_n 0, 1) := by decide +kernel
theorem dX11_drink_62 : decode cX11_drink 62 = .ok (.getfield 44, 3) := by decide +kernel
theorem dX11_drink_65 : decode cX11_drink 65 = .ok (.iload 5, 2) := by decide +kernel
theorem dX11_drink_67 : decode cX11_drink 67 = .ok (.putfield 197, 3) := by decide +kernel
theorem dX11_drink_70 : decode cX11_drink 70 = .ok (.aload_n 0, 1) := by decide +kernel
theorem dX11_drink_71 : decode cX11_drink 71 = .ok (.getfield 44, 3) := by decide +kernel
theorem dX11_drink_74 : decode cX11_drink 74 = .ok (.invokevirtual 168, 3) := by decide +kernel
theorem dX11_drink_77 : decode cX11_drink 77 = .ok (.istore 6, 2) := by decide +kernel
theorem dX11_drink_79 : decode cX11_drink 79 = .ok (.iload 6, 2) := by decide +kernel
theorem dX11_drink_81 : decode cX11_drink 81 = .ok (.iload_n 3, 1) := by decide +kernel
theorem dX11_drink_82 : decode cX11_drink 82 = .ok (.if_icmp .ge 10, 3) := by decide +kernel
theorem dX11_drink_85 : decode cX11_drink 85 = .ok (.iload 6, 2) := by decide +kernel
theorem dX11_drink_87 : decode cX11_drink 87 = .ok (.istore_n 3, 1) := by decide +kernel
theorem dX11_drink_88 : decode cX11_drink 88 = .ok (.iload 5, 2) := by decide +kernel
theorem dX11_drink_90 : decode cX11_drink 90 = .ok (.istore 4, 2) := by decide +kernel
theorem dX11_drink_92 : decode cX11_drink 92 = .ok (.iinc 5 1, 3) := by decide +kernel
theorem dX11_drink_95 : decode cX11_drink 95 = .ok (.goto (-49), 3) := by decide +kernel
theorem dX11_drink_98 : decode cX11_drink 98 = .ok (.iload_n 2, 1) := by decide +kernel
theorem dX11_drink_99 : decode cX11_drink 99 = .ok (.ifCond .eq 10, 3) := by decide +kernel
theorem dX11_drink_102 : decode cX11_drink 102 = .ok (.iload 4, 2) := by decide +kernel
theorem dX11_drink_104 : decode cX11_drink 104 = .ok (.bipush (-9), 2) := by decide +kernel
theorem dX11_drink_106 : decode cX11_drink 106 = .ok (.if_icmp .ne 8, 3) := by decide +kernel
theorem dX11_drink_109 : decode cX11_drink 109 = .ok (.iload 4, 2) := by decide +kernel
theorem dX11_drink_111 : decode cX11_drink 111 = .ok (.goto 4, 3) := by decide +kernel
theorem dX11_drink_114 : decode cX11_drink 114 = .ok (.iload_n 3, 1) := by decide +kernel
theorem dX11_drink_115 : decode cX11_drink 115 = .ok (.ireturn, 1) := by decide +kernel
theorem dX11_train_0 : decode cX11_train 0 = .ok (.aload_n 0, 1) := by decide +kernel
theorem dX11_train_1 : decode cX11_train 1 = .ok (.getfield 10, 3) := by decide +kernel
theorem dX11_train_4 : decode cX11_train 4 = .ok (.iload_n 1, 1) := by decide +kernel
theorem dX11_train_5 : decode cX11_train 5 = .ok (.invokevirtual 117, 3) := by decide +kernel
theorem dX11_train_8 : decode cX11_train 8 = .ok (.ifCond .ne 12, 3) := by decide +kernel
theorem dX11_train_11 : decode cX11_train 11 = .ok (.ldc 200, 2) := by decide +kernel
theorem dX11_train_13 : decode cX11_train 13 = .ok (.aload_n 0, 1) := by decide +kernel
theorem dX11_train_14 : decode cX11_train 14 = .ok (.iconst (-1), 1) := by decide +kernel
theorem dX11_train_15 : decode cX11_train 15 = .ok (.invokevirtual 72, 3) := by decide +kernel
theorem dX11_train_18 : decode cX11_train 18 = .ok (.isub, 1) := by decide +kernel
theorem dX11_train_19 : decode cX11_train 19 = .ok (.ireturn, 1) := by decide +kernel
theorem dX11_train_20 : decode cX11_train 20 = .ok (.iload_n 2, 1) := by decide +kernel
theorem dX11_train_21 : decode cX11_train 21 = .ok (.ifCond .lt 8, 3) := by decide +kernel
theorem dX11_train_24 : decode cX11_train 24 = .ok (.iload_n 2, 1) := by decide +kernel
theorem dX11_train_25 : decode cX11_train 25 = .ok (.iconst 1, 1) := by decide +kernel
theorem dX11_train_26 : decode cX11_train 26 = .ok (.if_icmp .le 13, 3) := by decide +kernel
theorem dX11_train_29 : decode cX11_train 29 = .ok (.ldc 200, 2) := by decide +kernel
theorem dX11_train_31 : decode cX11_train 31 = .ok (.aload_n 0, 1) := by decide +kernel
theorem dX11_train_32 : decode cX11_train 32 = .ok (.bipush (-2), 2) := by decide +kernel
theorem dX11_train_34 : decode cX11_train 34 = .ok (.invokevirtual 72, 3) := by decide +kernel
theorem dX11_train_37 : decode cX11_train 37 = .ok (.isub, 1) := by decide +kernel
theorem dX11_train_38 : decode cX11_train 38 = .ok (.ireturn, 1) := by decide +kernel
theorem dX11_train_39 : decode cX11_train 39 = .ok (.aload_n 0, 1) := by decide +kernel
theorem dX11_train_40 : decode cX11_train 40 = .ok (.iload_n 1, 1) := by decide +kernel
theorem dX11_train_41 : decode cX11_train 41 = .ok (.invokevirtual 142, 3) := by decide +kernel
theorem dX11_train_44 : decode cX11_train 44 = .ok (.istore_n 3, 1) := by decide +kernel
theorem dX11_train_45 : decode cX11_train 45 = .ok (.iconst 0, 1) := by decide +kernel
theorem dX11_train_46 : decode cX11_train 46 = .ok (.istore 4, 2) := by decide +kernel
theorem dX11_train_48 : decode cX11_train 48 = .ok (.aload_n 0, 1) := by decide +kernel
theorem dX11_train_49 : decode cX11_train 49 = .ok (.iload_n 1, 1) := by decide +kernel
theorem dX11_train_50 : decode cX11_train 50 = .ok (.iconst 0, 1) := by decide +kernel
theorem dX11_train_51 : decode cX11_train 51 = .ok (.iconst 1, 1) := by decide +kernel
theorem dX11_train_52 : decode cX11_train 52 = .ok (.invokevirtual 201, 3) := by decide +kernel
theorem dX11_train_55 : decode cX11_train 55 = .ok (.istore 5, 2) := by decide +kernel
theorem dX11_train_57 : decode cX11_train 57 = .ok (.iconst 1, 1) := by decide +kernel
theorem dX11_train_58 : decode cX11_train 58 = .ok (.istore 6, 2) := by decide +kernel
theorem dX11_train_60 : decode cX11_train 60 = .ok (.iload 6, 2) := by decide +kernel
theorem dX11_train_62 : decode cX11_train 62 = .ok (.iconst 2, 1) := by decide +kernel
theorem dX11_train_63 : decode cX11_train 63 = .ok (.if_icmp .gt 34, 3) := by decide +kernel
theorem dX11_train_66 : decode cX11_train 66 = .ok (.aload_n 0, 1) := by decide +kernel
theorem dX11_train_67 : decode cX11_train 67 = .ok (.iload_n 1, 1) := by decide +kernel
theorem dX11_train_68 : decode cX11_train 68 = .ok (.iload 6, 2) := by decide +kernel
theorem dX11_train_70 : decode cX11_train 70 = .ok (.iconst 1, 1) := by decide +kernel
theorem dX11_train_71 : decode cX11_train 71 = .ok (.invokevirtual 201, 3) := by decide +kernel
theorem dX11_train_74 : decode cX11_train 74 = .ok (.istore 7, 2) := by decide +kernel
theorem dX11_train_76 : decode cX11_train 76 = .ok (.iload 7, 2) := by decide +kernel
theorem dX11_train_78 : decode cX11_train 78 = .ok (.iload 5, 2) := by decide +kernel
theorem dX11_train_80 : decode cX11_train 80 = .ok (.if_icmp .ge 11, 3) := by decide +kernel
theorem dX11_train_83 : decode cX11_train 83 = .ok (.iload 7, 2) := by decide +kernel
theorem dX11_train_85 : decode cX11_train 85 = .ok (.istore 5, 2) := by decide +kernel
theorem dX11_train_87 : decode cX11_train 87 = .ok (.iload 6, 2) := by decide +kernel
theorem dX11_train_89 : decode cX11_train 89 = .ok (.istore 4, 2) := by decide +kernel
theorem dX11_train_91 : decode cX11_train 91 = .ok (.iinc 6 1, 3) := by decide +kernel
theorem dX11_train_94 : decode cX11_train 94 = .ok (.goto (-34), 3) := by decide +kernel
theorem dX11_train_97 : decode cX11_train 97 = .ok (.iload_n 2, 1) := by decide +kernel
theorem dX11_train_98 : decode cX11_train 98 = .ok (.ifCond .ne 8, 3) := by decide +kernel
theorem dX11_train_101 : decode cX11_train 101 = .ok (.iload 4, 2) := by decide +kernel
theorem dX11_train_103 : decode cX11_train 103 = .ok (.goto 7, 3) := by decide +kernel
theorem dX11_train_106 : decode cX11_train 106 = .ok (.iload_n 3, 1) := by decide +kernel
theorem dX11_train_107 : decode cX11_train 107 = .ok (.iload 5, 2) := by decide +kernel
theorem dX11_train_109 : decode cX11_train 109 = .ok (.isub, 1) := by decide +kernel
theorem dX11_train_110 : decode cX11_train 110 = .ok (.ireturn, 1) := by decide +kernel
theorem dX11_weakest_0 : decode cX11_weakest 0 = .ok (.aload_n 0, 1) := by decide +kernel
theorem dX11_weakest_1 : decode cX11_weakest 1 = .ok (.getfield 10, 3) := by decide +kernel
theorem dX11_weakest_4 : decode cX11_weakest 4 = .ok (.iload_n 1, 1) := by decide +kernel
theorem dX11_weakest_5 : decode cX11_weakest 5 = .ok (.invokevirtual 117, 3) := by decide +kernel
theorem dX11_weakest_8 : decode cX11_weakest 8 = .ok (.ifCond .ne 9, 3) := by decide +kernel
theorem dX11_weakest_11 : decode cX11_weakest 11 = .ok (.aload_n 0, 1) := by decide +kernel
theorem dX11_weakest_12 : decode cX11_weakest 12 = .ok (.iconst (-1), 1) := by decide +kernel
theorem dX11_weakest_13 : decode cX11_weakest 13 = .ok (.invokevirtual 72, 3) := by decide +kernel
theorem dX11_weakest_16 : decode cX11_weakest 16 = .ok (.ireturn, 1) := by decide +kernel
theorem dX11_weakest_17 : decode cX11_weakest 17 = .ok (.aload_n 0, 1) := by decide +kernel
theorem dX11_weakest_18 : decode cX11_weakest 18 = .ok (.iload_n 1, 1) := by decide +kernel
theorem dX11_weakest_19 : decode cX11_weakest 19 = .ok (.invokevirtual 142, 3) := by decide +kernel
theorem dX11_weakest_22 : decode cX11_weakest 22 = .ok (.pop, 1) := by decide +kernel
theorem dX11_weakest_23 : decode cX11_weakest 23 = .ok (.aload_n 0, 1) := by decide +kernel
theorem dX11_weakest_24 : decode cX11_weakest 24 = .ok (.getfield 44, 3) := by decide +kernel
theorem dX11_weakest_27 : decode cX11_weakest 27 = .ok (.invokevirtual 205, 3) := by decide +kernel
theorem dX11_weakest_30 : decode cX11_weakest 30 = .ok (.ireturn, 1) := by decide +kernel
theorem dX11_meadow_0 : decode cX11_meadow 0 = .ok (.aload_n 0, 1) := by decide +kernel
theorem dX11_meadow_1 : decode cX11_meadow 1 = .ok (.getfield 10, 3) := by decide +kernel
theorem dX11_meadow_4 : decode cX11_meadow 4 = .ok (.iload_n 1, 1) := by decide +kernel
theorem dX11_meadow_5 : decode cX11_meadow 5 = .ok (.invokevirtual 117, 3) := by decide +kernel
theorem dX11_meadow_8 : decode cX11_meadow 8 = .ok (.ifCond .ne 9, 3) := by decide +kernel
theorem dX11_meadow_11 : decode cX11_meadow 11 = .ok (.aload_n 0, 1) := by decide +kernel
theorem dX11_meadow_12 : decode cX11_meadow 12 = .ok (.iconst (-1), 1) := by decide +kernel
theorem dX11_meadow_13 : decode cX11_meadow 13 = .ok (.invokevirtual 72, 3) := by decide +kernel
theorem dX11_meadow_16 : decode cX11_meadow 16 = .ok (.ireturn, 1) := by decide +kernel
theorem dX11_meadow_17 : decode cX11_meadow 17 = .ok (.iload_n 2, 1) := by decide +kernel
theorem dX11_meadow_18 : decode cX11_meadow 18 = .ok (.ifCond .lt 8, 3) := by decide +kernel
theorem dX11_meadow_21 : decode cX11_meadow 21 = .ok (.iload_n 2, 1) := by decide +kernel
theorem dX11_meadow_22 : decode cX11_meadow 22 = .ok (.iconst 1, 1) := by decide +kernel
theorem dX11_meadow_23 : decode cX11_meadow 23 = .ok (.if_icmp .le 10, 3) := by decide +kernel
theorem dX11_meadow_26 : decode cX11_meadow 26 = .ok (.aload_n 0, 1) := by decide +kernel
theorem dX11_meadow_27 : decode cX11_meadow 27 = .ok (.bipush (-2), 2) := by decide +kernel
theorem dX11_meadow_29 : decode cX11_meadow 29 = .ok (.invokevirtual 72, 3) := by decide +kernel
theorem dX11_meadow_32 : decode cX11_meadow 32 = .ok (.ireturn, 1) := by decide +kernel
theorem dX11_meadow_33 : decode cX11_meadow 33 = .ok (.aload_n 0, 1) := by decide +kernel
theorem dX11_meadow_34 : decode cX11_meadow 34 = .ok (.iload_n 1, 1) := by decide +kernel
theorem dX11_meadow_35 : decode cX11_meadow 35 = .ok (.invokevirtual 142, 3) := by decide +kernel
theorem dX11_meadow_38 : decode cX11_meadow 38 = .ok (.istore_n 3, 1) := by decide +kernel
theorem dX11_meadow_39 : decode cX11_meadow 39 = .ok (.aload_n 0, 1) := by decide +kernel
theorem dX11_meadow_40 : decode cX11_meadow 40 = .ok (.getfield 44, 3) := by decide +kernel
theorem dX11_meadow_43 : decode cX11_meadow 43 = .ok (.invokevirtual 208, 3) := by decide +kernel
theorem dX11_meadow_46 : decode cX11_meadow 46 = .ok (.istore 4, 2) := by decide +kernel
theorem dX11_meadow_48 : decode cX11_meadow 48 = .ok (.iload_n 2, 1) := by decide +kernel
theorem dX11_meadow_49 : decode cX11_meadow 49 = .ok (.ifCond .ne 6, 3) := by decide +kernel
theorem dX11_meadow_52 : decode cX11_meadow 52 = .ok (.iload 4, 2) := by decide +kernel
theorem dX11_meadow_54 : decode cX11_meadow 54 = .ok (.ireturn, 1) := by decide +kernel
theorem dX11_meadow_55 : decode cX11_meadow 55 = .ok (.iload_n 3, 1) := by decide +kernel
theorem dX11_meadow_56 : decode cX11_meadow 56 = .ok (.aload_n 0, 1) := by decide +kernel
theorem dX11_meadow_57 : decode cX11_meadow 57 = .ok (.iload_n 1, 1) := by decide +kernel
theorem dX11_meadow_58 : decode cX11_meadow 58 = .ok (.iconst 1, 1) := by decide +kernel
theorem dX11_meadow_59 : decode cX11_meadow 59 = .ok (.iconst 3, 1) := by decide +kernel
theorem dX11_meadow_60 : decode cX11_meadow 60 = .ok (.invokevirtual 201, 3) := by decide +kernel
theorem dX11_meadow_63 : decode cX11_meadow 63 = .ok (.isub, 1) := by decide +kernel
theorem dX11_meadow_64 : decode cX11_meadow 64 = .ok (.istore 5, 2) := by decide +kernel
theorem dX11_meadow_66 : decode cX11_meadow 66 = .ok (.iload 4, 2) := by decide +kernel
theorem dX11_meadow_68 : decode cX11_meadow 68 = .ok (.iload 5, 2) := by decide +kernel
theorem dX11_meadow_70 : decode cX11_meadow 70 = .ok (.if_icmp .le 7, 3) := by decide +kernel
theorem dX11_meadow_73 : decode cX11_meadow 73 = .ok (.iconst 1, 1) := by decide +kernel
theorem dX11_meadow_74 : decode cX11_meadow 74 = .ok (.goto 4, 3) := by decide +kernel
theorem dX11_meadow_77 : decode cX11_meadow 77 = .ok (.iconst 0, 1) := by decide +kernel
theorem dX11_meadow_78 : decode cX11_meadow 78 = .ok (.ireturn, 1) := by decide +kernel
theorem dX11_leave_0 : decode cX11_leave 0 = .ok (.aload_n 0, 1) := by decide +kernel
theorem dX11_leave_1 : decode cX11_leave 1 = .ok (.getfield 10, 3) := by decide +kernel
theorem dX11_leave_4 : decode cX11_leave 4 = .ok (.iload_n 1, 1) := by decide +kernel
theorem dX11_leave_5 : decode cX11_leave 5 = .ok (.invokevirtual 117, 3) := by decide +kernel
theorem dX11_leave_8 : decode cX11_leave 8 = .ok (.ifCond .ne 9, 3) := by decide +kernel
theorem dX11_leave_11 : decode cX11_leave 11 = .ok (.aload_n 0, 1) := by decide +kernel
theorem dX11_leave_12 : decode cX11_leave 12 = .ok (.iconst (-1), 1) := by decide +kernel
theorem dX11_leave_13 : decode cX11_leave 13 = .ok (.invokevirtual 72, 3) := by decide +kernel
theorem dX11_leave_16 : decode cX11_leave 16 = .ok (.ireturn, 1) := by decide +kernel
theorem dX11_leave_17 : decode cX11_leave 17 = .ok (.iload_n 2, 1) := by decide +kernel
theorem dX11_leave_18 : decode cX11_leave 18 = .ok (.ifCond .lt 8, 3) := by decide +kernel
theorem dX11_leave_21 : decode cX11_leave 21 = .ok (.iload_n 2, 1) := by decide +kernel
theorem dX11_leave_22 : decode cX11_leave 22 = .ok (.iconst 1, 1) := by decide +kernel
theorem dX11_leave_23 : decode cX11_leave 23 = .ok (.if_icmp .le 10, 3) := by decide +kernel
theorem dX11_leave_26 : decode cX11_leave 26 = .ok (.aload_n 0, 1) := by decide +kernel
theorem dX11_leave_27 : decode cX11_leave 27 = .ok (.bipush (-2), 2) := by decide +kernel
theorem dX11_leave_29 : decode cX11_leave 29 = .ok (.invokevirtual 72, 3) := by decide +kernel
theorem dX11_leave_32 : decode cX11_leave 32 = .ok (.ireturn, 1) := by decide +kernel
theorem dX11_leave_33 : decode cX11_leave 33 = .ok (.bipush (-9), 2) := by decide +kernel
theorem dX11_leave_35 : decode cX11_leave 35 = .ok (.istore_n 3, 1) := by decide +kernel
theorem dX11_leave_36 : decode cX11_leave 36 = .ok (.iconst 0, 1) := by decide +kernel
theorem dX11_leave_37 : decode cX11_leave 37 = .ok (.istore 4, 2) := by decide +kernel
theorem dX11_leave_39 : decode cX11_leave 39 = .ok (.iconst 0, 1) := by decide +kernel
theorem dX11_leave_40 : decode cX11_leave 40 = .ok (.istore 5, 2) := by decide +kernel
theorem dX11_leave_42 : decode cX11_leave 42 = .ok (.iload 5, 2) := by decide +kernel
theorem dX11_leave_44 : decode cX11_leave 44 = .ok (.aload_n 0, 1) := by decide +kernel
theorem dX11_leave_45 : decode cX11_leave 45 = .ok (.getfield 10, 3) := by decide +kernel
theorem dX11_leave_48 : decode cX11_leave 48 = .ok (.getfield 93, 3) := by decide +kernel
theorem dX11_leave_51 : decode cX11_leave 51 = .ok (.getfield 138, 3) := by decide +kernel
theorem dX11_leave_54 : decode cX11_leave 54 = .ok (.if_icmp .ge 70, 3) := by decide +kernel
theorem dX11_leave_57 : decode cX11_leave 57 = .ok (.aload_n 0, 1) := by decide +kernel
theorem dX11_leave_58 : decode cX11_leave 58 = .ok (.getfield 44, 3) := by decide +kernel
theorem dX11_leave_61 : decode cX11_leave 61 = .ok (.aload_n 0, 1) := by decide +kernel
theorem dX11_leave_62 : decode cX11_leave 62 = .ok (.getfield 10, 3) := by decide +kernel
theorem dX11_leave_65 : decode cX11_leave 65 = .ok (.getfield 93, 3) := by decide +kernel
theorem dX11_leave_68 : decode cX11_leave 68 = .ok (.aload_n 0, 1) := by decide +kernel
theorem dX11_leave_69 : decode cX11_leave 69 = .ok (.getfield 10, 3) := by decide +kernel
theorem dX11_leave_72 : decode cX11_leave 72 = .ok (.getfield 118, 3) := by decide +kernel
theorem dX11_leave_75 : decode cX11_leave 75 = .ok (.iload_n 1, 1) := by decide +kernel
theorem dX11_leave_76 : decode cX11_leave 76 = .ok (.aaload, 1) := by decide +kernel
theorem dX11_leave_77 : decode cX11_leave 77 = .ok (.invokevirtual 164, 3) := by decide +kernel
theorem dX11_leave_80 : decode cX11_leave 80 = .ok (.aload_n 0, 1) := by decide +kernel
theorem dX11_leave_81 : decode cX11_leave 81 = .ok (.getfield 44, 3) := by decide +kernel
theorem dX11_leave_84 : decode cX11_leave 84 = .ok (.iload 5, 2) := by decide +kernel
theorem dX11_leave_86 : decode cX11_leave 86 = .ok (.invokevirtual 211, 3) := by decide +kernel
theorem dX11_leave_89 : decode cX11_leave 89 = .ok (.aload_n 0, 1) := by decide +kernel
theorem dX11_leave_90 : decode cX11_leave 90 = .ok (.getfield 44, 3) := by decide +kernel
theorem dX11_leave_93 : decode cX11_leave 93 = .ok (.invokevirtual 168, 3) := by decide +kernel
theorem dX11_leave_96 : decode cX11_leave 96 = .ok (.istore 6, 2) := by decide +kernel
theorem dX11_leave_98 : decode cX11_leave 98 = .ok (.iload_n 3, 1) := by decide +kernel
theorem dX11_leave_99 : decode cX11_leave 99 = .ok (.bipush (-9), 2) := by decide +kernel
theorem dX11_leave_101 : decode cX11_leave 101 = .ok (.if_icmp .eq 10, 3) := by decide +kernel
theorem dX11_leave_104 : decode cX11_leave 104 = .ok (.iload 6, 2) := by decide +kernel
theorem dX11_leave_106 : decode cX11_leave 106 = .ok (.iload 4, 2) := by decide +kernel
theorem dX11_leave_108 : decode cX11_leave 108 = .ok (.if_icmp .ge 10, 3) := by decide +kernel
theorem dX11_leave_111 : decode cX11_leave 111 = .ok (.iload 6, 2) := by decide +kernel
theorem dX11_leave_113 : decode cX11_leave 113 = .ok (.istore 4, 2) := by decide +kernel
theorem dX11_leave_115 : decode cX11_leave 115 = .ok (.iload 5, 2) := by decide +kernel
theorem dX11_leave_117 : decode cX11_leave 117 = .ok (.istore_n 3, 1) := by decide +kernel
theorem dX11_leave_118 : decode cX11_leave 118 = .ok (.iinc 5 1, 3) := by decide +kernel
theorem dX11_leave_121 : decode cX11_leave 121 = .ok (.goto (-79), 3) := by decide +kernel
theorem dX11_leave_124 : decode cX11_leave 124 = .ok (.iload_n 2, 1) := by decide +kernel
theorem dX11_leave_125 : decode cX11_leave 125 = .ok (.ifCond .eq 9, 3) := by decide +kernel
theorem dX11_leave_128 : decode cX11_leave 128 = .ok (.iload_n 3, 1) := by decide +kernel
theorem dX11_leave_129 : decode cX11_leave 129 = .ok (.bipush (-9), 2) := by decide +kernel
theorem dX11_leave_131 : decode cX11_leave 131 = .ok (.if_icmp .ne 7, 3) := by decide +kernel
theorem dX11_leave_134 : decode cX11_leave 134 = .ok (.iload_n 3, 1) := by decide +kernel
theorem dX11_leave_135 : decode cX11_leave 135 = .ok (.goto 5, 3) := by decide +kernel
theorem dX11_leave_138 : decode cX11_leave 138 = .ok (.iload 4, 2) := by decide +kernel
theorem dX11_leave_140 : decode cX11_leave 140 = .ok (.ireturn, 1) := by decide +kernel
theorem dX11_order_0 : decode cX11_order 0 = .ok (.aload_n 0, 1) := by decide +kernel
theorem dX11_order_1 : decode cX11_order 1 = .ok (.getfield 10, 3) := by decide +kernel
theorem dX11_order_4 : decode cX11_order 4 = .ok (.iload_n 1, 1) := by decide +kernel
theorem dX11_order_5 : decode cX11_order 5 = .ok (.invokevirtual 117, 3) := by decide +kernel
theorem dX11_order_8 : decode cX11_order 8 = .ok (.ifCond .ne 9, 3) := by decide +kernel
theorem dX11_order_11 : decode cX11_order 11 = .ok (.aload_n 0, 1) := by decide +kernel
theorem dX11_order_12 : decode cX11_order 12 = .ok (.iconst (-1), 1) := by decide +kernel
theorem dX11_order_13 : decode cX11_order 13 = .ok (.invokevirtual 72, 3) := by decide +kernel
theorem dX11_order_16 : decode cX11_order 16 = .ok (.ireturn, 1) := by decide +kernel
theorem dX11_order_17 : decode cX11_order 17 = .ok (.aload_n 0, 1) := by decide +kernel
theorem dX11_order_18 : decode cX11_order 18 = .ok (.iload_n 1, 1) := by decide +kernel
theorem dX11_order_19 : decode cX11_order 19 = .ok (.invokevirtual 142, 3) := by decide +kernel
theorem dX11_order_22 : decode cX11_order 22 = .ok (.istore_n 2, 1) := by decide +kernel
theorem dX11_order_23 : decode cX11_order 23 = .ok (.bipush (-9), 2) := by decide +kernel
theorem dX11_order_25 : decode cX11_order 25 = .ok (.istore_n 3, 1) := by decide +kernel
theorem dX11_order_26 : decode cX11_order 26 = .ok (.iconst 0, 1) := by decide +kernel
theorem dX11_order_27 : decode cX11_order 27 = .ok (.istore 4, 2) := by decide +kernel
theorem dX11_order_29 : decode cX11_order 29 = .ok (.iload 4, 2) := by decide +kernel
theorem dX11_order_31 : decode cX11_order 31 = .ok (.aload_n 0, 1) := by decide +kernel
theorem dX11_order_32 : decode cX11_order 32 = .ok (.getfield 10, 3) := by decide +kernel
theorem dX11_order_35 : decode cX11_order 35 = .ok (.getfield 93, 3) := by decide +kernel
theorem dX11_order_38 : decode cX11_order 38 = .ok (.getfield 138, 3) := by decide +kernel
theorem dX11_order_41 : decode cX11_order 41 = .ok (.if_icmp .ge 91, 3) := by decide +kernel
theorem dX11_order_44 : decode cX11_order 44 = .ok (.iload 4, 2) := by decide +kernel
theorem dX11_order_46 : decode cX11_order 46 = .ok (.iconst 1, 1) := by decide +kernel
theorem dX11_order_47 : decode cX11_order 47 = .ok (.iadd, 1) := by decide +kernel
theorem dX11_order_48 : decode cX11_order 48 = .ok (.istore 5, 2) := by decide +kernel
theorem dX11_order_50 : decode cX11_order 50 = .ok (.iload 5, 2) := by decide +kernel
theorem dX11_order_52 : decode cX11_order 52 = .ok (.aload_n 0, 1) := by decide +kernel
theorem dX11_order_53 : decode cX11_order 53 = .ok (.getfield 10, 3) := by decide +kernel
theorem dX11_order_56 : decode cX11_order 56 = .ok (.getfield 93, 3) := by decide +kernel
theorem dX11_order_59 : decode cX11_order 59 = .ok (.getfield 138, 3) := by decide +kernel
theorem dX11_order_62 : decode cX11_order 62 = .ok (.if_icmp .ge 64, 3) := by decide +kernel
theorem dX11_order_65 : decode cX11_order 65 = .ok (.aload_n 0, 1) := by decide +kernel
theorem dX11_order_66 : decode cX11_order 66 = .ok (.getfield 44, 3) := by decide +kernel
theorem dX11_order_69 : decode cX11_order 69 = .ok (.getfield 214, 3) := by decide +kernel
theorem dX11_order_72 : decode cX11_order 72 = .ok (.iload 4, 2) := by decide +kernel
theorem dX11_order_74 : decode cX11_order 74 = .ok (.iload 5, 2) := by decide +kernel
theorem dX11_order_76 : decode cX11_order 76 = .ok (.invokevirtual 134, 3) := by decide +kernel
theorem dX11_order_79 : decode cX11_order 79 = .ok (.aload_n 0, 1) := by decide +kernel
theorem dX11_order_80 : decode cX11_order 80 = .ok (.getfield 44, 3) := by decide +kernel
theorem dX11_order_83 : decode cX11_order 83 = .ok (.invokevirtual 168, 3) := by decide +kernel
theorem dX11_order_86 : decode cX11_order 86 = .ok (.istore 6, 2) := by decide +kernel
theorem dX11_order_88 : decode cX11_order 88 = .ok (.aload_n 0, 1) := by decide +kernel
theorem dX11_order_89 : decode cX11_order 89 = .ok (.getfield 44, 3) := by decide +kernel
theorem dX11_order_92 : decode cX11_order 92 = .ok (.getfield 214, 3) := by decide +kernel
theorem dX11_order_95 : decode cX11_order 95 = .ok (.iload 4, 2) := by decide +kernel
theorem dX11_order_97 : decode cX11_order 97 = .ok (.iload 5, 2) := by decide +kernel
theorem dX11_order_99 : decode cX11_order 99 = .ok (.invokevirtual 134, 3) := by decide +kernel
theorem dX11_order_102 : decode cX11_order 102 = .ok (.iload 6, 2) := by decide +kernel
theorem dX11_order_104 : decode cX11_order 104 = .ok (.iload_n 2, 1) := by decide +kernel
theorem dX11_order_105 : decode cX11_order 105 = .ok (.if_icmp .ge 15, 3) := by decide +kernel
theorem dX11_order_108 : decode cX11_order 108 = .ok (.iload 6, 2) := by decide +kernel
theorem dX11_order_110 : decode cX11_order 110 = .ok (.istore_n 2, 1) := by decide +kernel
theorem dX11_order_111 : decode cX11_order 111 = .ok (.bipush 10, 2) := by decide +kernel
theorem dX11_order_113 : decode cX11_order 113 = .ok (.iload 4, 2) := by decide +kernel
theorem dX11_order_115 : decode cX11_order 115 = .ok (.imul, 1) := by decide +kernel
theorem dX11_order_116 : decode cX11_order 116 = .ok (.iload 5, 2) := by decide +kernel
theorem dX11_order_118 : decode cX11_order 118 = .ok (.iadd, 1) := by decide +kernel
theorem dX11_order_119 : decode cX11_order 119 = .ok (.istore_n 3, 1) := by decide +kernel
theorem dX11_order_120 : decode cX11_order 120 = .ok (.iinc 5 1, 3) := by decide +kernel
theorem dX11_order_123 : decode cX11_order 123 = .ok (.goto (-73), 3) := by decide +kernel
theorem dX11_order_126 : decode cX11_order 126 = .ok (.iinc 4 1, 3) := by decide +kernel
theorem dX11_order_129 : decode cX11_order 129 = .ok (.goto (-100), 3) := by decide +kernel
theorem dX11_order_132 : decode cX11_order 132 = .ok (.iload_n 3, 1) := by decide +kernel
theorem dX11_order_133 : decode cX11_order 133 = .ok (.ireturn, 1) := by decide +kernel
theorem dX11_puncture_0 : decode cX11_puncture 0 = .ok (.aload_n 0, 1) := by decide +kernel
theorem dX11_puncture_1 : decode cX11_puncture 1 = .ok (.iload_n 1, 1) := by decide +kernel
theorem dX11_puncture_2 : decode cX11_puncture 2 = .ok (.iload_n 2, 1) := by decide +kernel
theorem dX11_puncture_3 : decode cX11_puncture 3 = .ok (.iload_n 3, 1) := by decide +kernel
theorem dX11_puncture_4 : decode cX11_puncture 4 = .ok (.iload 4, 2) := by decide +kernel
theorem dX11_puncture_6 : decode cX11_puncture 6 = .ok (.invokevirtual 215, 3) := by decide +kernel
theorem dX11_puncture_9 : decode cX11_puncture 9 = .ok (.istore 6, 2) := by decide +kernel
theorem dX11_puncture_11 : decode cX11_puncture 11 = .ok (.iload 6, 2) := by decide +kernel
theorem dX11_puncture_13 : decode cX11_puncture 13 = .ok (.ifCond .ne 15, 3) := by decide +kernel
theorem dX11_puncture_16 : decode cX11_puncture 16 = .ok (.iload 5, 2) := by decide +kernel
theorem dX11_puncture_18 : decode cX11_puncture 18 = .ok (.invokestatic 219, 3) := by decide +kernel
theorem dX11_puncture_21 : decode cX11_puncture 21 = .ok (.ifCond .ne 7, 3) := by decide +kernel
theorem dX11_puncture_24 : decode cX11_puncture 24 = .ok (.bipush (-2), 2) := by decide +kernel
theorem dX11_puncture_26 : decode cX11_puncture 26 = .ok (.istore 6, 2) := by decide +kernel
theorem dX11_puncture_28 : decode cX11_puncture 28 = .ok (.iload 6, 2) := by decide +kernel
theorem dX11_puncture_30 : decode cX11_puncture 30 = .ok (.ifCond .eq 15, 3) := by decide +kernel
theorem dX11_puncture_33 : decode cX11_puncture 33 = .ok (.ldc2_w 222, 3) := by decide +kernel
theorem dX11_puncture_36 : decode cX11_puncture 36 = .ok (.aload_n 0, 1) := by decide +kernel
theorem dX11_puncture_37 : decode cX11_puncture 37 = .ok (.iload 6, 2) := by decide +kernel
theorem dX11_puncture_39 : decode cX11_puncture 39 = .ok (.invokevirtual 72, 3) := by decide +kernel
theorem dX11_puncture_42 : decode cX11_puncture 42 = .ok (.i2l, 1) := by decide +kernel
theorem dX11_puncture_43 : decode cX11_puncture 43 = .ok (.lsub, 1) := by decide +kernel
theorem dX11_puncture_44 : decode cX11_puncture 44 = .ok (.lreturn, 1) := by decide +kernel
theorem dX11_puncture_45 : decode cX11_puncture 45 = .ok (.aload_n 0, 1) := by decide +kernel
theorem dX11_puncture_46 : decode cX11_puncture 46 = .ok (.iload_n 1, 1) := by decide +kernel
theorem dX11_puncture_47 : decode cX11_puncture 47 = .ok (.invokevirtual 142, 3) := by decide +kernel
theorem dX11_puncture_50 : decode cX11_puncture 50 = .ok (.istore 7, 2) := by decide +kernel
theorem dX11_puncture_52 : decode cX11_puncture 52 = .ok (.aload_n 0, 1) := by decide +kernel
theorem dX11_puncture_53 : decode cX11_puncture 53 = .ok (.getfield 10, 3) := by decide +kernel
theorem dX11_puncture_56 : decode cX11_puncture 56 = .ok (.getfield 93, 3) := by decide +kernel
theorem dX11_puncture_59 : decode cX11_puncture 59 = .ok (.invokevirtual 224, 3) := by decide +kernel
theorem dX11_puncture_62 : decode cX11_puncture 62 = .ok (.istore 8, 2) := by decide +kernel
theorem dX11_puncture_64 : decode cX11_puncture 64 = .ok (.iload 8, 2) := by decide +kernel
theorem dX11_puncture_66 : decode cX11_puncture 66 = .ok (.iload_n 2, 1) := by decide +kernel
theorem dX11_puncture_67 : decode cX11_puncture 67 = .ok (.iload_n 3, 1) := by decide +kernel
theorem dX11_puncture_68 : decode cX11_puncture 68 = .ok (.iload 4, 2) := by decide +kernel
theorem dX11_puncture_70 : decode cX11_puncture 70 = .ok (.iload 7, 2) := by decide +kernel
theorem dX11_puncture_72 : decode cX11_puncture 72 = .ok (.isub, 1) := by decide +kernel
theorem dX11_puncture_73 : decode cX11_puncture 73 = .ok (.invokestatic 227, 3) := by decide +kernel
theorem dX11_puncture_76 : decode cX11_puncture 76 = .ok (.lstore 9, 2) := by decide +kernel
theorem dX11_puncture_78 : decode cX11_puncture 78 = .ok (.lload 9, 2) := by decide +kernel
theorem dX11_puncture_80 : decode cX11_puncture 80 = .ok (.iload_n 2, 1) := by decide +kernel
theorem dX11_puncture_81 : decode cX11_puncture 81 = .ok (.i2l, 1) := by decide +kernel
theorem dX11_puncture_82 : decode cX11_puncture 82 = .ok (.iload 8, 2) := by decide +kernel
theorem dX11_puncture_84 : decode cX11_puncture 84 = .ok (.invokestatic 233, 3) := by decide +kernel
theorem dX11_puncture_87 : decode cX11_puncture 87 = .ok (.iload 5, 2) := by decide +kernel
theorem dX11_puncture_89 : decode cX11_puncture 89 = .ok (.invokestatic 237, 3) := by decide +kernel
theorem dX11_puncture_92 : decode cX11_puncture 92 = .ok (.lreturn, 1) := by decide +kernel
theorem dX11_mean_0 : decode cX11_mean 0 = .ok (.aload_n 0, 1) := by decide +kernel
theorem dX11_mean_1 : decode cX11_mean 1 = .ok (.iload_n 1, 1) := by decide +kernel
theorem dX11_mean_2 : decode cX11_mean 2 = .ok (.iload_n 2, 1) := by decide +kernel
theorem dX11_mean_3 : decode cX11_mean 3 = .ok (.iload_n 3, 1) := by decide +kernel
theorem dX11_mean_4 : decode cX11_mean 4 = .ok (.iconst 0, 1) := by decide +kernel
theorem dX11_mean_5 : decode cX11_mean 5 = .ok (.invokevirtual 215, 3) := by decide +kernel
theorem dX11_mean_8 : decode cX11_mean 8 = .ok (.istore 5, 2) := by decide +kernel
theorem dX11_mean_10 : decode cX11_mean 10 = .ok (.iload 5, 2) := by decide +kernel
theorem dX11_mean_12 : decode cX11_mean 12 = .ok (.ifCond .ne 15, 3) := by decide +kernel
theorem dX11_mean_15 : decode cX11_mean 15 = .ok (.iload 4, 2) := by decide +kernel
theorem dX11_mean_17 : decode cX11_mean 17 = .ok (.invokestatic 219, 3) := by decide +kernel
theorem dX11_mean_20 : decode cX11_mean 20 = .ok (.ifCond .ne 7, 3) := by decide +kernel
theorem dX11_mean_23 : decode cX11_mean 23 = .ok (.bipush (-2), 2) := by decide +kernel
theorem dX11_mean_25 : decode cX11_mean 25 = .ok (.istore 5, 2) := by decide +kernel
theorem dX11_mean_27 : decode cX11_mean 27 = .ok (.iload 5, 2) := by decide +kernel
theorem dX11_mean_29 : decode cX11_mean 29 = .ok (.ifCond .eq 15, 3) := by decide +kernel
theorem dX11_mean_32 : decode cX11_mean 32 = .ok (.ldc2_w 222, 3) := by decide +kernel
theorem dX11_mean_35 : decode cX11_mean 35 = .ok (.aload_n 0, 1) := by decide +kernel
theorem dX11_mean_36 : decode cX11_mean 36 = .ok (.iload 5, 2) := by decide +kernel
theorem dX11_mean_38 : decode cX11_mean 38 = .ok (.invokevirtual 72, 3) := by decide +kernel
theorem dX11_mean_41 : decode cX11_mean 41 = .ok (.i2l, 1) := by decide +kernel
theorem dX11_mean_42 : decode cX11_mean 42 = .ok (.lsub, 1) := by decide +kernel
theorem dX11_mean_43 : decode cX11_mean 43 = .ok (.lreturn, 1) := by decide +kernel
theorem dX11_mean_44 : decode cX11_mean 44 = .ok (.aload_n 0, 1) := by decide +kernel
theorem dX11_mean_45 : decode cX11_mean 45 = .ok (.iload_n 1, 1) := by decide +kernel
theorem dX11_mean_46 : decode cX11_mean 46 = .ok (.invokevirtual 142, 3) := by decide +kernel
theorem dX11_mean_49 : decode cX11_mean 49 = .ok (.i2l, 1) := by decide +kernel
theorem dX11_mean_50 : decode cX11_mean 50 = .ok (.iload_n 2, 1) := by decide +kernel
theorem dX11_mean_51 : decode cX11_mean 51 = .ok (.i2l, 1) := by decide +kernel
theorem dX11_mean_52 : decode cX11_mean 52 = .ok (.lmul, 1) := by decide +kernel
theorem dX11_mean_53 : decode cX11_mean 53 = .ok (.aload_n 0, 1) := by decide +kernel
theorem dX11_mean_54 : decode cX11_mean 54 = .ok (.getfield 10, 3) := by decide +kernel
theorem dX11_mean_57 : decode cX11_mean 57 = .ok (.getfield 93, 3) := by decide +kernel
theorem dX11_mean_60 : decode cX11_mean 60 = .ok (.invokevirtual 224, 3) := by decide +kernel
theorem dX11_mean_63 : decode cX11_mean 63 = .ok (.i2l, 1) := by decide +kernel
theorem dX11_mean_64 : decode cX11_mean 64 = .ok (.iload_n 3, 1) := by decide +kernel
theorem dX11_mean_65 : decode cX11_mean 65 = .ok (.i2l, 1) := by decide +kernel
theorem dX11_mean_66 : decode cX11_mean 66 = .ok (.lmul, 1) := by decide +kernel
theorem dX11_mean_67 : decode cX11_mean 67 = .ok (.ladd, 1) := by decide +kernel
theorem dX11_mean_68 : decode cX11_mean 68 = .ok (.lstore 6, 2) := by decide +kernel
theorem dX11_mean_70 : decode cX11_mean 70 = .ok (.lload 6, 2) := by decide +kernel
theorem dX11_mean_72 : decode cX11_mean 72 = .ok (.iload_n 2, 1) := by decide +kernel
theorem dX11_mean_73 : decode cX11_mean 73 = .ok (.i2l, 1) := by decide +kernel
theorem dX11_mean_74 : decode cX11_mean 74 = .ok (.iload 4, 2) := by decide +kernel
theorem dX11_mean_76 : decode cX11_mean 76 = .ok (.invokestatic 237, 3) := by decide +kernel
theorem dX11_mean_79 : decode cX11_mean 79 = .ok (.lreturn, 1) := by decide +kernel
theorem dX11_tube_0 : decode cX11_tube 0 = .ok (.aload_n 0, 1) := by decide +kernel
theorem dX11_tube_1 : decode cX11_tube 1 = .ok (.iload_n 1, 1) := by decide +kernel
theorem dX11_tube_2 : decode cX11_tube 2 = .ok (.iload_n 2, 1) := by decide +kernel
theorem dX11_tube_3 : decode cX11_tube 3 = .ok (.iload_n 3, 1) := by decide +kernel
theorem dX11_tube_4 : decode cX11_tube 4 = .ok (.iconst 0, 1) := by decide +kernel
theorem dX11_tube_5 : decode cX11_tube 5 = .ok (.invokevirtual 215, 3) := by decide +kernel
theorem dX11_tube_8 : decode cX11_tube 8 = .ok (.istore 4, 2) := by decide +kernel
theorem dX11_tube_10 : decode cX11_tube 10 = .ok (.iload 4, 2) := by decide +kernel
theorem dX11_tube_12 : decode cX11_tube 12 = .ok (.ifCond .eq 10, 3) := by decide +kernel
theorem dX11_tube_15 : decode cX11_tube 15 = .ok (.aload_n 0, 1) := by decide +kernel
theorem dX11_tube_16 : decode cX11_tube 16 = .ok (.iload 4, 2) := by decide +kernel
theorem dX11_tube_18 : decode cX11_tube 18 = .ok (.invokevirtual 72, 3) := by decide +kernel
theorem dX11_tube_21 : decode cX11_tube 21 = .ok (.ireturn, 1) := by decide +kernel
theorem dX11_tube_22 : decode cX11_tube 22 = .ok (.aload_n 0, 1) := by decide +kernel
theorem dX11_tube_23 : decode cX11_tube 23 = .ok (.getfield 10, 3) := by decide +kernel
theorem dX11_tube_26 : decode cX11_tube 26 = .ok (.getfield 93, 3) := by decide +kernel
theorem dX11_tube_29 : decode cX11_tube 29 = .ok (.invokevirtual 224, 3) := by decide +kernel
theorem dX11_tube_32 : decode cX11_tube 32 = .ok (.istore 5, 2) := by decide +kernel
theorem dX11_tube_34 : decode cX11_tube 34 = .ok (.bipush 60, 2) := by decide +kernel
theorem dX11_tube_36 : decode cX11_tube 36 = .ok (.iload_n 2, 1) := by decide +kernel
theorem dX11_tube_37 : decode cX11_tube 37 = .ok (.imul, 1) := by decide +kernel
theorem dX11_tube_38 : decode cX11_tube 38 = .ok (.bipush 10, 2) := by decide +kernel
theorem dX11_tube_40 : decode cX11_tube 40 = .ok (.iload 5, 2) := by decide +kernel
theorem dX11_tube_42 : decode cX11_tube 42 = .ok (.imul, 1) := by decide +kernel
theorem dX11_tube_43 : decode cX11_tube 43 = .ok (.iadd, 1) := by decide +kernel
theorem dX11_tube_44 : decode cX11_tube 44 = .ok (.iload_n 3, 1) := by decide +kernel
theorem dX11_tube_45 : decode cX11_tube 45 = .ok (.iload 5, 2) := by decide +kernel
theorem dX11_tube_47 : decode cX11_tube 47 = .ok (.imul, 1) := by decide +kernel
theorem dX11_tube_48 : decode cX11_tube 48 = .ok (.if_icmp .ge 7, 3) := by decide +kernel
theorem dX11_tube_51 : decode cX11_tube 51 = .ok (.iconst 1, 1) := by decide +kernel
theorem dX11_tube_52 : decode cX11_tube 52 = .ok (.goto 4, 3) := by decide +kernel
theorem dX11_tube_55 : decode cX11_tube 55 = .ok (.iconst 0, 1) := by decide +kernel
theorem dX11_tube_56 : decode cX11_tube 56 = .ok (.ireturn, 1) := by decide +kernel
theorem dX11_draw_0 : decode cX11_draw 0 = .ok (.aload_n 0, 1) := by decide +kernel
theorem dX11_draw_1 : decode cX11_draw 1 = .ok (.getfield 10, 3) := by decide +kernel
theorem dX11_draw_4 : decode cX11_draw 4 = .ok (.iload_n 1, 1) := by decide +kernel
theorem dX11_draw_5 : decode cX11_draw 5 = .ok (.invokevirtual 117, 3) := by decide +kernel
theorem dX11_draw_8 : decode cX11_draw 8 = .ok (.ifCond .ne 9, 3) := by decide +kernel
theorem dX11_draw_11 : decode cX11_draw 11 = .ok (.aload_n 0, 1) := by decide +kernel
theorem dX11_draw_12 : decode cX11_draw 12 = .ok (.iconst (-1), 1) := by decide +kernel
theorem dX11_draw_13 : decode cX11_draw 13 = .ok (.invokevirtual 72, 3) := by decide +kernel
theorem dX11_draw_16 : decode cX11_draw 16 = .ok (.ireturn, 1) := by decide +kernel
theorem dX11_draw_17 : decode cX11_draw 17 = .ok (.iload_n 2, 1) := by decide +kernel
theorem dX11_draw_18 : decode cX11_draw 18 = .ok (.ifCond .lt 8, 3) := by decide +kernel
theorem dX11_draw_21 : decode cX11_draw 21 = .ok (.iload_n 2, 1) := by decide +kernel
theorem dX11_draw_22 : decode cX11_draw 22 = .ok (.iconst 1, 1) := by decide +kernel
theorem dX11_draw_23 : decode cX11_draw 23 = .ok (.if_icmp .le 10, 3) := by decide +kernel
theorem dX11_draw_26 : decode cX11_draw 26 = .ok (.aload_n 0, 1) := by decide +kernel
theorem dX11_draw_27 : decode cX11_draw 27 = .ok (.bipush (-2), 2) := by decide +kernel
theorem dX11_draw_29 : decode cX11_draw 29 = .ok (.invokevirtual 72, 3) := by decide +kernel
theorem dX11_draw_32 : decode cX11_draw 32 = .ok (.ireturn, 1) := by decide +kernel
theorem dX11_draw_33 : decode cX11_draw 33 = .ok (.aload_n 0, 1) := by decide +kernel
theorem dX11_draw_34 : decode cX11_draw 34 = .ok (.iload_n 1, 1) := by decide +kernel
theorem dX11_draw_35 : decode cX11_draw 35 = .ok (.invokevirtual 142, 3) := by decide +kernel
theorem dX11_draw_38 : decode cX11_draw 38 = .ok (.istore_n 3, 1) := by decide +kernel
theorem dX11_draw_39 : decode cX11_draw 39 = .ok (.bipush (-9), 2) := by decide +kernel
theorem dX11_draw_41 : decode cX11_draw 41 = .ok (.istore 4, 2) := by decide +kernel
theorem dX11_draw_43 : decode cX11_draw 43 = .ok (.bipush (-9), 2) := by decide +kernel
theorem dX11_draw_45 : decode cX11_draw 45 = .ok (.istore 5, 2) := by decide +kernel
theorem dX11_draw_47 : decode cX11_draw 47 = .ok (.iconst 0, 1) := by decide +kernel
theorem dX11_draw_48 : decode cX11_draw 48 = .ok (.istore 6, 2) := by decide +kernel
theorem dX11_draw_50 : decode cX11_draw 50 = .ok (.iload 6, 2) := by decide +kernel
theorem dX11_draw_52 : decode cX11_draw 52 = .ok (.aload_n 0, 1) := by decide +kernel
theorem dX11_draw_53 : decode cX11_draw 53 = .ok (.getfield 10, 3) := by decide +kernel
theorem dX11_draw_56 : decode cX11_draw 56 = .ok (.getfield 241, 3) := by decide +kernel
theorem dX11_draw_59 : decode cX11_draw 59 = .ok (.if_icmp .ge 46, 3) := by decide +kernel
theorem dX11_draw_62 : decode cX11_draw 62 = .ok (.iload_n 3, 1) := by decide +kernel
theorem dX11_draw_63 : decode cX11_draw 63 = .ok (.aload_n 0, 1) := by decide +kernel
theorem dX11_draw_64 : decode cX11_draw 64 = .ok (.iload 6, 2) := by decide +kernel
theorem dX11_draw_66 : decode cX11_draw 66 = .ok (.invokevirtual 142, 3) := by decide +kernel
theorem dX11_draw_69 : decode cX11_draw 69 = .ok (.isub, 1) := by decide +kernel
theorem dX11_draw_70 : decode cX11_draw 70 = .ok (.istore 7, 2) := by decide +kernel
theorem dX11_draw_72 : decode cX11_draw 72 = .ok (.iload 7, 2) := by decide +kernel
theorem dX11_draw_74 : decode cX11_draw 74 = .ok (.ifCond .le 25, 3) := by decide +kernel
theorem dX11_draw_77 : decode cX11_draw 77 = .ok (.iload 4, 2) := by decide +kernel
theorem dX11_draw_79 : decode cX11_draw 79 = .ok (.bipush (-9), 2) := by decide +kernel
theorem dX11_draw_81 : decode cX11_draw 81 = .ok (.if_icmp .eq 10, 3) := by decide +kernel
theorem dX11_draw_84 : decode cX11_draw 84 = .ok (.iload 7, 2) := by decide +kernel
theorem dX11_draw_86 : decode cX11_draw 86 = .ok (.iload 5, 2) := by decide +kernel
theorem dX11_draw_88 : decode cX11_draw 88 = .ok (.if_icmp .ge 11, 3) := by decide +kernel
theorem dX11_draw_91 : decode cX11_draw 91 = .ok (.iload 6, 2) := by decide +kernel
theorem dX11_draw_93 : decode cX11_draw 93 = .ok (.istore 4, 2) := by decide +kernel
theorem dX11_draw_95 : decode cX11_draw 95 = .ok (.iload 7, 2) := by decide +kernel
theorem dX11_draw_97 : decode cX11_draw 97 = .ok (.istore 5, 2) := by decide +kernel
theorem dX11_draw_99 : decode cX11_draw 99 = .ok (.iinc 6 1, 3) := by decide +kernel
theorem dX11_draw_102 : decode cX11_draw 102 = .ok (.goto (-52), 3) := by decide +kernel
theorem dX11_draw_105 : decode cX11_draw 105 = .ok (.iload_n 2, 1) := by decide +kernel
theorem dX11_draw_106 : decode cX11_draw 106 = .ok (.ifCond .ne 8, 3) := by decide +kernel
theorem dX11_draw_109 : decode cX11_draw 109 = .ok (.iload 4, 2) := by decide +kernel
theorem dX11_draw_111 : decode cX11_draw 111 = .ok (.goto 5, 3) := by decide +kernel
theorem dX11_draw_114 : decode cX11_draw 114 = .ok (.iload 5, 2) := by decide +kernel
theorem dX11_draw_116 : decode cX11_draw 116 = .ok (.ireturn, 1) := by decide +kernel
theorem dX11_two_0 : decode cX11_two 0 = .ok (.aload_n 0, 1) := by decide +kernel
theorem dX11_two_1 : decode cX11_two 1 = .ok (.getfield 10, 3) := by decide +kernel
theorem dX11_two_4 : decode cX11_two 4 = .ok (.iload_n 1, 1) := by decide +kernel
theorem dX11_two_5 : decode cX11_two 5 = .ok (.invokevirtual 117, 3) := by decide +kernel
theorem dX11_two_8 : decode cX11_two 8 = .ok (.ifCond .eq 33, 3) := by decide +kernel
theorem dX11_two_11 : decode cX11_two 11 = .ok (.aload_n 0, 1) := by decide +kernel
theorem dX11_two_12 : decode cX11_two 12 = .ok (.getfield 10, 3) := by decide +kernel
theorem dX11_two_15 : decode cX11_two 15 = .ok (.iload_n 2, 1) := by decide +kernel
theorem dX11_two_16 : decode cX11_two 16 = .ok (.invokevirtual 117, 3) := by decide +kernel
theorem dX11_two_19 : decode cX11_two 19 = .ok (.ifCond .eq 22, 3) := by decide +kernel
theorem dX11_two_22 : decode cX11_two 22 = .ok (.iload_n 1, 1) := by decide +kernel
theorem dX11_two_23 : decode cX11_two 23 = .ok (.iload_n 2, 1) := by decide +kernel
theorem dX11_two_24 : decode cX11_two 24 = .ok (.if_icmp .eq 17, 3) := by decide +kernel
theorem dX11_two_27 : decode cX11_two 27 = .ok (.aload_n 0, 1) := by decide +kernel
theorem dX11_two_28 : decode cX11_two 28 = .ok (.getfield 10, 3) := by decide +kernel
theorem dX11_two_31 : decode cX11_two 31 = .ok (.getfield 93, 3) := by decide +kernel
theorem dX11_two_34 : decode cX11_two 34 = .ok (.iload_n 3, 1) := by decide +kernel
theorem dX11_two_35 : decode cX11_two 35 = .ok (.invokevirtual 97, 3) := by decide +kernel
theorem dX11_two_38 : decode cX11_two 38 = .ok (.ifCond .ne 9, 3) := by decide +kernel
theorem dX11_two_41 : decode cX11_two 41 = .ok (.aload_n 0, 1) := by decide +kernel
theorem dX11_two_42 : decode cX11_two 42 = .ok (.iconst (-1), 1) := by decide +kernel
theorem dX11_two_43 : decode cX11_two 43 = .ok (.invokevirtual 72, 3) := by decide +kernel
theorem dX11_two_46 : decode cX11_two 46 = .ok (.ireturn, 1) := by decide +kernel
theorem dX11_two_47 : decode cX11_two 47 = .ok (.iconst 0, 1) := by decide +kernel
theorem dX11_two_48 : decode cX11_two 48 = .ok (.istore 4, 2) := by decide +kernel
theorem dX11_two_50 : decode cX11_two 50 = .ok (.iload 4, 2) := by decide +kernel
theorem dX11_two_52 : decode cX11_two 52 = .ok (.iconst 3, 1) := by decide +kernel
theorem dX11_two_53 : decode cX11_two 53 = .ok (.if_icmp .gt 45, 3) := by decide +kernel
theorem dX11_two_56 : decode cX11_two 56 = .ok (.aload_n 0, 1) := by decide +kernel
theorem dX11_two_57 : decode cX11_two 57 = .ok (.getfield 61, 3) := by decide +kernel
theorem dX11_two_60 : decode cX11_two 60 = .ok (.getfield 242, 3) := by decide +kernel
theorem dX11_two_63 : decode cX11_two 63 = .ok (.iload 4, 2) := by decide +kernel
theorem dX11_two_65 : decode cX11_two 65 = .ok (.aload_n 0, 1) := by decide +kernel
theorem dX11_two_66 : decode cX11_two 66 = .ok (.iload_n 1, 1) := by decide +kernel
theorem dX11_two_67 : decode cX11_two 67 = .ok (.iload_n 3, 1) := by decide +kernel
theorem dX11_two_68 : decode cX11_two 68 = .ok (.iload 4, 2) := by decide +kernel
theorem dX11_two_70 : decode cX11_two 70 = .ok (.invokevirtual 245, 3) := by decide +kernel
theorem dX11_two_73 : decode cX11_two 73 = .ok (.iastore, 1) := by decide +kernel
theorem dX11_two_74 : decode cX11_two 74 = .ok (.aload_n 0, 1) := by decide +kernel
theorem dX11_two_75 : decode cX11_two 75 = .ok (.getfield 61, 3) := by decide +kernel
theorem dX11_two_78 : decode cX11_two 78 = .ok (.getfield 248, 3) := by decide +kernel
theorem dX11_two_81 : decode cX11_two 81 = .ok (.iload 4, 2) := by decide +kernel
theorem dX11_two_83 : decode cX11_two 83 = .ok (.aload_n 0, 1) := by decide +kernel
theorem dX11_two_84 : decode cX11_two 84 = .ok (.iload_n 2, 1) := by decide +kernel
theorem dX11_two_85 : decode cX11_two 85 = .ok (.iload_n 3, 1) := by decide +kernel
theorem dX11_two_86 : decode cX11_two 86 = .ok (.iload 4, 2) := by decide +kernel
theorem dX11_two_88 : decode cX11_two 88 = .ok (.invokevirtual 245, 3) := by decide +kernel
theorem dX11_two_91 : decode cX11_two 91 = .ok (.iastore, 1) := by decide +kernel
theorem dX11_two_92 : decode cX11_two 92 = .ok (.iinc 4 1, 3) := by decide +kernel
theorem dX11_two_95 : decode cX11_two 95 = .ok (.goto (-45), 3) := by decide +kernel
theorem dX11_two_98 : decode cX11_two 98 = .ok (.aload_n 0, 1) := by decide +kernel
theorem dX11_two_99 : decode cX11_two 99 = .ok (.getfield 61, 3) := by decide +kernel
theorem dX11_two_102 : decode cX11_two 102 = .ok (.invokevirtual 251, 3) := by decide +kernel
theorem dX11_two_105 : decode cX11_two 105 = .ok (.ireturn, 1) := by decide +kernel
theorem dX11_whatWas_0 : decode cX11_whatWas 0 = .ok (.aload_n 0, 1) := by decide +kernel
theorem dX11_whatWas_1 : decode cX11_whatWas 1 = .ok (.getfield 10, 3) := by decide +kernel
theorem dX11_whatWas_4 : decode cX11_whatWas 4 = .ok (.getfield 93, 3) := by decide +kernel
theorem dX11_whatWas_7 : decode cX11_whatWas 7 = .ok (.iload_n 1, 1) := by decide +kernel
theorem dX11_whatWas_8 : decode cX11_whatWas 8 = .ok (.invokevirtual 97, 3) := by decide +kernel
theorem dX11_whatWas_11 : decode cX11_whatWas 11 = .ok (.ifCond .ne 9, 3) := by decide +kernel
theorem dX11_whatWas_14 : decode cX11_whatWas 14 = .ok (.aload_n 0, 1) := by decide +kernel
theorem dX11_whatWas_15 : decode cX11_whatWas 15 = .ok (.iconst (-1), 1) := by decide +kernel
theorem dX11_whatWas_16 : decode cX11_whatWas 16 = .ok (.invokevirtual 72, 3) := by decide +kernel
theorem dX11_whatWas_19 : decode cX11_whatWas 19 = .ok (.ireturn, 1) := by decide +kernel
theorem dX11_whatWas_20 : decode cX11_whatWas 20 = .ok (.iload_n 2, 1) := by decide +kernel
theorem dX11_whatWas_21 : decode cX11_whatWas 21 = .ok (.ifCond .lt 8, 3) := by decide +kernel
theorem dX11_whatWas_24 : decode cX11_whatWas 24 = .ok (.iload_n 2, 1) := by decide +kernel
theorem dX11_whatWas_25 : decode cX11_whatWas 25 = .ok (.iconst 1, 1) := by decide +kernel
theorem dX11_whatWas_26 : decode cX11_whatWas 26 = .ok (.if_icmp .le 10, 3) := by decide +kernel
theorem dX11_whatWas_29 : decode cX11_whatWas 29 = .ok (.aload_n 0, 1) := by decide +kernel
theorem dX11_whatWas_30 : decode cX11_whatWas 30 = .ok (.bipush (-2), 2) := by decide +kernel
theorem dX11_whatWas_32 : decode cX11_whatWas 32 = .ok (.invokevirtual 72, 3) := by decide +kernel
theorem dX11_whatWas_35 : decode cX11_whatWas 35 = .ok (.ireturn, 1) := by decide +kernel
theorem dX11_whatWas_36 : decode cX11_whatWas 36 = .ok (.aload_n 0, 1) := by decide +kernel
theorem dX11_whatWas_37 : decode cX11_whatWas 37 = .ok (.getfield 33, 3) := by decide +kernel
theorem dX11_whatWas_40 : decode cX11_whatWas 40 = .ok (.getfield 254, 3) := by decide +kernel
theorem dX11_whatWas_43 : decode cX11_whatWas 43 = .ok (.aload_n 0, 1) := by decide +kernel
theorem dX11_whatWas_44 : decode cX11_whatWas 44 = .ok (.getfield 10, 3) := by decide +kernel
theorem dX11_whatWas_47 : decode cX11_whatWas 47 = .ok (.getfield 241, 3) := by decide +kernel
theorem dX11_whatWas_50 : decode cX11_whatWas 50 = .ok (.if_icmp .eq 10, 3) := by decide +kernel
theorem dX11_whatWas_53 : decode cX11_whatWas 53 = .ok (.aload_n 0, 1) := by decide +kernel
theorem dX11_whatWas_54 : decode cX11_whatWas 54 = .ok (.bipush (-3), 2) := by decide +kernel
theorem dX11_whatWas_56 : decode cX11_whatWas 56 = .ok (.invokevirtual 72, 3) := by decide +kernel
theorem dX11_whatWas_59 : decode cX11_whatWas 59 = .ok (.ireturn, 1) := by decide +kernel
theorem dX11_whatWas_60 : decode cX11_whatWas 60 = .ok (.iload_n 2, 1) := by decide +kernel
theorem dX11_whatWas_61 : decode cX11_whatWas 61 = .ok (.ifCond .ne 11, 3) := by decide +kernel
theorem dX11_whatWas_64 : decode cX11_whatWas 64 = .ok (.aload_n 0, 1) := by decide +kernel
theorem dX11_whatWas_65 : decode cX11_whatWas 65 = .ok (.iload_n 1, 1) := by decide +kernel
theorem dX11_whatWas_66 : decode cX11_whatWas 66 = .ok (.invokevirtual 255, 3) := by decide +kernel
theorem dX11_whatWas_69 : decode cX11_whatWas 69 = .ok (.goto 8, 3) := by decide +kernel
theorem dX11_whatWas_72 : decode cX11_whatWas 72 = .ok (.aload_n 0, 1) := by decide +kernel
theorem dX11_whatWas_73 : decode cX11_whatWas 73 = .ok (.iload_n 1, 1) := by decide +kernel
theorem dX11_whatWas_74 : decode cX11_whatWas 74 = .ok (.invokevirtual 258, 3) := by decide +kernel
theorem dX11_whatWas_77 : decode cX11_whatWas 77 = .ok (.ireturn, 1) := by decide +kernel
theorem dX11_row_0 : decode cX11_row 0 = .ok (.iload_n 1, 1) := by decide +kernel
theorem dX11_row_1 : decode cX11_row 1 = .ok (.ifCond .ge 10, 3) := by decide +kernel
theorem dX11_row_4 : decode cX11_row 4 = .ok (.aload_n 0, 1) := by decide +kernel
theorem dX11_row_5 : decode cX11_row 5 = .ok (.bipush (-4), 2) := by decide +kernel
theorem dX11_row_7 : decode cX11_row 7 = .ok (.invokevirtual 72, 3) := by decide +kernel
theorem dX11_row_10 : decode cX11_row 10 = .ok (.ireturn, 1) := by decide +kernel
theorem dX11_row_11 : decode cX11_row 11 = .ok (.iload_n 1, 1) := by decide +kernel
theorem dX11_row_12 : decode cX11_row 12 = .ok (.bipush 99, 2) := by decide +kernel
theorem dX11_row_14 : decode cX11_row 14 = .ok (.if_icmp .gt 13, 3) := by decide +kernel
theorem dX11_row_17 : decode cX11_row 17 = .ok (.aload_n 0, 1) := by decide +kernel
theorem dX11_row_18 : decode cX11_row 18 = .ok (.getfield 33, 3) := by decide +kernel
theorem dX11_row_21 : decode cX11_row 21 = .ok (.invokevirtual 261, 3) := by decide +kernel
theorem dX11_row_24 : decode cX11_row 24 = .ok (.ifCond .eq 10, 3) := by decide +kernel
theorem dX11_row_27 : decode cX11_row 27 = .ok (.aload_n 0, 1) := by decide +kernel
theorem dX11_row_28 : decode cX11_row 28 = .ok (.bipush (-6), 2) := by decide +kernel
theorem dX11_row_30 : decode cX11_row 30 = .ok (.invokevirtual 72, 3) := by decide +kernel
theorem dX11_row_33 : decode cX11_row 33 = .ok (.ireturn, 1) := by decide +kernel
theorem dX11_row_34 : decode cX11_row 34 = .ok (.aload_n 0, 1) := by decide +kernel
theorem dX11_row_35 : decode cX11_row 35 = .ok (.getfield 33, 3) := by decide +kernel
theorem dX11_row_38 : decode cX11_row 38 = .ok (.iload_n 1, 1) := by decide +kernel
theorem dX11_row_39 : decode cX11_row 39 = .ok (.invokevirtual 262, 3) := by decide +kernel
theorem dX11_row_42 : decode cX11_row 42 = .ok (.ireturn, 1) := by decide +kernel
theorem dX11_judge_0 : decode cX11_judge 0 = .ok (.aload_n 0, 1) := by decide +kernel
theorem dX11_judge_1 : decode cX11_judge 1 = .ok (.getfield 10, 3) := by decide +kernel
theorem dX11_judge_4 : decode cX11_judge 4 = .ok (.iload_n 1, 1) := by decide +kernel
theorem dX11_judge_5 : decode cX11_judge 5 = .ok (.invokevirtual 117, 3) := by decide +kernel
theorem dX11_judge_8 : decode cX11_judge 8 = .ok (.ifCond .ne 9, 3) := by decide +kernel
theorem dX11_judge_11 : decode cX11_judge 11 = .ok (.aload_n 0, 1) := by decide +kernel
theorem dX11_judge_12 : decode cX11_judge 12 = .ok (.iconst (-1), 1) := by decide +kernel
theorem dX11_judge_13 : decode cX11_judge 13 = .ok (.invokevirtual 72, 3) := by decide +kernel
theorem dX11_judge_16 : decode cX11_judge 16 = .ok (.ireturn, 1) := by decide +kernel
theorem dX11_judge_17 : decode cX11_judge 17 = .ok (.aload_n 0, 1) := by decide +kernel
theorem dX11_judge_18 : decode cX11_judge 18 = .ok (.iload_n 1, 1) := by decide +kernel
theorem dX11_judge_19 : decode cX11_judge 19 = .ok (.invokevirtual 142, 3) := by decide +kernel
theorem dX11_judge_22 : decode cX11_judge 22 = .ok (.pop, 1) := by decide +kernel
theorem dX11_judge_23 : decode cX11_judge 23 = .ok (.aload_n 0, 1) := by decide +kernel
theorem dX11_judge_24 : decode cX11_judge 24 = .ok (.getfield 33, 3) := by decide +kernel
theorem dX11_judge_27 : decode cX11_judge 27 = .ok (.aload_n 0, 1) := by decide +kernel
theorem dX11_judge_28 : decode cX11_judge 28 = .ok (.getfield 44, 3) := by decide +kernel
theorem dX11_judge_31 : decode cX11_judge 31 = .ok (.getfield 148, 3) := by decide +kernel
theorem dX11_judge_34 : decode cX11_judge 34 = .ok (.aload_n 0, 1) := by decide +kernel
theorem dX11_judge_35 : decode cX11_judge 35 = .ok (.getfield 10, 3) := by decide +kernel
theorem dX11_judge_38 : decode cX11_judge 38 = .ok (.getfield 93, 3) := by decide +kernel
theorem dX11_judge_41 : decode cX11_judge 41 = .ok (.getfield 138, 3) := by decide +kernel
theorem dX11_judge_44 : decode cX11_judge 44 = .ok (.invokevirtual 263, 3) := by decide +kernel
theorem dX11_judge_47 : decode cX11_judge 47 = .ok (.istore_n 2, 1) := by decide +kernel
theorem dX11_judge_48 : decode cX11_judge 48 = .ok (.aload_n 0, 1) := by decide +kernel
theorem dX11_judge_49 : decode cX11_judge 49 = .ok (.getfield 33, 3) := by decide +kernel
theorem dX11_judge_52 : decode cX11_judge 52 = .ok (.invokevirtual 267, 3) := by decide +kernel
theorem dX11_judge_55 : decode cX11_judge 55 = .ok (.pop, 1) := by decide +kernel
theorem dX11_judge_56 : decode cX11_judge 56 = .ok (.iload_n 2, 1) := by decide +kernel
theorem dX11_judge_57 : decode cX11_judge 57 = .ok (.ireturn, 1) := by decide +kernel
theorem dX11_clear_0 : decode cX11_clear 0 = .ok (.aload_n 0, 1) := by decide +kernel
theorem dX11_clear_1 : decode cX11_clear 1 = .ok (.getfield 33, 3) := by decide +kernel
theorem dX11_clear_4 : decode cX11_clear 4 = .ok (.invokevirtual 267, 3) := by decide +kernel
theorem dX11_clear_7 : decode cX11_clear 7 = .ok (.ireturn, 1) := by decide +kernel
theorem dX11_lots_0 : decode cX11_lots 0 = .ok (.iload_n 1, 1) := by decide +kernel
theorem dX11_lots_1 : decode cX11_lots 1 = .ok (.iconst 1, 1) := by decide +kernel
theorem dX11_lots_2 : decode cX11_lots 2 = .ok (.if_icmp .ge 10, 3) := by decide +kernel
theorem dX11_lots_5 : decode cX11_lots 5 = .ok (.aload_n 0, 1) := by decide +kernel
theorem dX11_lots_6 : decode cX11_lots 6 = .ok (.bipush (-4), 2) := by decide +kernel
theorem dX11_lots_8 : decode cX11_lots 8 = .ok (.invokevirtual 72, 3) := by decide +kernel
theorem dX11_lots_11 : decode cX11_lots 11 = .ok (.ireturn, 1) := by decide +kernel
theorem dX11_lots_12 : decode cX11_lots 12 = .ok (.iload_n 1, 1) := by decide +kernel
theorem dX11_lots_13 : decode cX11_lots 13 = .ok (.bipush 20, 2) := by decide +kernel
theorem dX11_lots_15 : decode cX11_lots 15 = .ok (.if_icmp .le 10, 3) := by decide +kernel
theorem dX11_lots_18 : decode cX11_lots 18 = .ok (.aload_n 0, 1) := by decide +kernel
theorem dX11_lots_19 : decode cX11_lots 19 = .ok (.bipush (-6), 2) := by decide +kernel
theorem dX11_lots_21 : decode cX11_lots 21 = .ok (.invokevirtual 72, 3) := by decide +kernel
theorem dX11_lots_24 : decode cX11_lots 24 = .ok (.ireturn, 1) := by decide +kernel
theorem dX11_lots_25 : decode cX11_lots 25 = .ok (.iload_n 3, 1) := by decide +kernel
theorem dX11_lots_26 : decode cX11_lots 26 = .ok (.ifCond .lt 8, 3) := by decide +kernel
theorem dX11_lots_29 : decode cX11_lots 29 = .ok (.iload_n 3, 1) := by decide +kernel
theorem dX11_lots_30 : decode cX11_lots 30 = .ok (.iconst 1, 1) := by decide +kernel
theorem dX11_lots_31 : decode cX11_lots 31 = .ok (.if_icmp .le 10, 3) := by decide +kernel
theorem dX11_lots_34 : decode cX11_lots 34 = .ok (.aload_n 0, 1) := by decide +kernel
theorem dX11_lots_35 : decode cX11_lots 35 = .ok (.bipush (-2), 2) := by decide +kernel
theorem dX11_lots_37 : decode cX11_lots 37 = .ok (.invokevirtual 72, 3) := by decide +kernel
theorem dX11_lots_40 : decode cX11_lots 40 = .ok (.ireturn, 1) := by decide +kernel
theorem dX11_lots_41 : decode cX11_lots 41 = .ok (.aload_n 0, 1) := by decide +kernel
theorem dX11_lots_42 : decode cX11_lots 42 = .ok (.getfield 10, 3) := by decide +kernel
theorem dX11_lots_45 : decode cX11_lots 45 = .ok (.getfield 241, 3) := by decide +kernel
theorem dX11_lots_48 : decode cX11_lots 48 = .ok (.ifCond .ne 10, 3) := by decide +kernel
theorem dX11_lots_51 : decode cX11_lots 51 = .ok (.aload_n 0, 1) := by decide +kernel
theorem dX11_lots_52 : decode cX11_lots 52 = .ok (.bipush (-3), 2) := by decide +kernel
theorem dX11_lots_54 : decode cX11_lots 54 = .ok (.invokevirtual 72, 3) := by decide +kernel
theorem dX11_lots_57 : decode cX11_lots 57 = .ok (.ireturn, 1) := by decide +kernel
theorem dX11_lots_58 : decode cX11_lots 58 = .ok (.aload_n 0, 1) := by decide +kernel
theorem dX11_lots_59 : decode cX11_lots 59 = .ok (.getfield 68, 3) := by decide +kernel
theorem dX11_lots_62 : decode cX11_lots 62 = .ok (.iload_n 2, 1) := by decide +kernel
theorem dX11_lots_63 : decode cX11_lots 63 = .ok (.putfield 269, 3) := by decide +kernel
theorem dX11_lots_66 : decode cX11_lots 66 = .ok (.iconst 0, 1) := by decide +kernel
theorem dX11_lots_67 : decode cX11_lots 67 = .ok (.istore 4, 2) := by decide +kernel
theorem dX11_lots_69 : decode cX11_lots 69 = .ok (.iconst 0, 1) := by decide +kernel
theorem dX11_lots_70 : decode cX11_lots 70 = .ok (.istore 5, 2) := by decide +kernel
theorem dX11_lots_72 : decode cX11_lots 72 = .ok (.iload 5, 2) := by decide +kernel
theorem dX11_lots_74 : decode cX11_lots 74 = .ok (.iload_n 1, 1) := by decide +kernel
theorem dX11_lots_75 : decode cX11_lots 75 = .ok (.if_icmp .ge 44, 3) := by decide +kernel
theorem dX11_lots_78 : decode cX11_lots 78 = .ok (.aload_n 0, 1) := by decide +kernel
theorem dX11_lots_79 : decode cX11_lots 79 = .ok (.invokevirtual 272, 3) := by decide +kernel
theorem dX11_lots_82 : decode cX11_lots 82 = .ok (.istore 6, 2) := by decide +kernel
theorem dX11_lots_84 : decode cX11_lots 84 = .ok (.iload 4, 2) := by decide +kernel
theorem dX11_lots_86 : decode cX11_lots 86 = .ok (.iload_n 3, 1) := by decide +kernel
theorem dX11_lots_87 : decode cX11_lots 87 = .ok (.ifCond .ne 13, 3) := by decide +kernel
theorem dX11_lots_90 : decode cX11_lots 90 = .ok (.aload_n 0, 1) := by decide +kernel
theorem dX11_lots_91 : decode cX11_lots 91 = .ok (.getfield 68, 3) := by decide +kernel
theorem dX11_lots_94 : decode cX11_lots 94 = .ok (.getfield 275, 3) := by decide +kernel
theorem dX11_lots_97 : decode cX11_lots 97 = .ok (.goto 13, 3) := by decide +kernel
theorem dX11_lots_100 : decode cX11_lots 100 = .ok (.iload 6, 2) := by decide +kernel
theorem dX11_lots_102 : decode cX11_lots 102 = .ok (.ifCond .eq 7, 3) := by decide +kernel
theorem dX11_lots_105 : decode cX11_lots 105 = .ok (.iconst 1, 1) := by decide +kernel
theorem dX11_lots_106 : decode cX11_lots 106 = .ok (.goto 4, 3) := by decide +kernel
theorem dX11_lots_109 : decode cX11_lots 109 = .ok (.iconst 0, 1) := by decide +kernel
theorem dX11_lots_110 : decode cX11_lots 110 = .ok (.iadd, 1) := by decide +kernel
theorem dX11_lots_111 : decode cX11_lots 111 = .ok (.istore 4, 2) := by decide +kernel
theorem dX11_lots_113 : decode cX11_lots 113 = .ok (.iinc 5 1, 3) := by decide +kernel
theorem dX11_lots_116 : decode cX11_lots 116 = .ok (.goto (-44), 3) := by decide +kernel
theorem dX11_lots_119 : decode cX11_lots 119 = .ok (.iload 4, 2) := by decide +kernel
theorem dX11_lots_121 : decode cX11_lots 121 = .ok (.ireturn, 1) := by decide +kernel
theorem dX11_image_0 : decode cX11_image 0 = .ok (.aload_n 0, 1) := by decide +kernel
theorem dX11_image_1 : decode cX11_image 1 = .ok (.getfield 16, 3) := by decide +kernel
theorem dX11_image_4 : decode cX11_image 4 = .ok (.aload_n 0, 1) := by decide +kernel
theorem dX11_image_5 : decode cX11_image 5 = .ok (.getfield 10, 3) := by decide +kernel
theorem dX11_image_8 : decode cX11_image 8 = .ok (.invokevirtual 278, 3) := by decide +kernel
theorem dX11_image_11 : decode cX11_image 11 = .ok (.aload_n 0, 1) := by decide +kernel
theorem dX11_image_12 : decode cX11_image 12 = .ok (.iconst 1, 1) := by decide +kernel
theorem dX11_image_13 : decode cX11_image 13 = .ok (.putfield 19, 3) := by decide +kernel
theorem dX11_image_16 : decode cX11_image 16 = .ok (.aload_n 0, 1) := by decide +kernel
theorem dX11_image_17 : decode cX11_image 17 = .ok (.getfield 10, 3) := by decide +kernel
theorem dX11_image_20 : decode cX11_image 20 = .ok (.getfield 93, 3) := by decide +kernel
theorem dX11_image_23 : decode cX11_image 23 = .ok (.getfield 138, 3) := by decide +kernel
theorem dX11_image_26 : decode cX11_image 26 = .ok (.ireturn, 1) := by decide +kernel
theorem dX11_on_0 : decode cX11_on 0 = .ok (.aload_n 0, 1) := by decide +kernel
theorem dX11_on_1 : decode cX11_on 1 = .ok (.getfield 19, 3) := by decide +kernel
theorem dX11_on_4 : decode cX11_on 4 = .ok (.ifCond .ne 10, 3) := by decide +kernel
theorem dX11_on_7 : decode cX11_on 7 = .ok (.aload_n 0, 1) := by decide +kernel
theorem dX11_on_8 : decode cX11_on 8 = .ok (.bipush (-3), 2) := by decide +kernel
theorem dX11_on_10 : decode cX11_on 10 = .ok (.invokevirtual 72, 3) := by decide +kernel
theorem dX11_on_13 : decode cX11_on 13 = .ok (.ireturn, 1) := by decide +kernel
theorem dX11_on_14 : decode cX11_on 14 = .ok (.aload_n 0, 1) := by decide +kernel
theorem dX11_on_15 : decode cX11_on 15 = .ok (.getfield 10, 3) := by decide +kernel
theorem dX11_on_18 : decode cX11_on 18 = .ok (.aload_n 0, 1) := by decide +kernel
theorem dX11_on_19 : decode cX11_on 19 = .ok (.getfield 16, 3) := by decide +kernel
theorem dX11_on_22 : decode cX11_on 22 = .ok (.invokevirtual 278, 3) := by decide +kernel
theorem dX11_on_25 : decode cX11_on 25 = .ok (.aload_n 0, 1) := by decide +kernel
theorem dX11_on_26 : decode cX11_on 26 = .ok (.getfield 10, 3) := by decide +kernel
theorem dX11_on_29 : decode cX11_on 29 = .ok (.getfield 93, 3) := by decide +kernel
theorem dX11_on_32 : decode cX11_on 32 = .ok (.getfield 138, 3) := by decide +kernel
theorem dX11_on_35 : decode cX11_on 35 = .ok (.ireturn, 1) := by decide +kernel
theorem dX11_count_0 : decode cX11_count 0 = .ok (.iload_n 1, 1) := by decide +kernel
theorem dX11_count_1 : decode cX11_count 1 = .ok (.tableswitch 123 0 7 #[47, 58, 66, 77, 88, 99, 107, 115], 47) := by decide +kernel
theorem dX11_count_48 : decode cX11_count 48 = .ok (.aload_n 0, 1) := by decide +kernel
theorem dX11_count_49 : decode cX11_count 49 = .ok (.getfield 10, 3) := by decide +kernel
theorem dX11_count_52 : decode cX11_count 52 = .ok (.getfield 93, 3) := by decide +kernel
theorem dX11_count_55 : decode cX11_count 55 = .ok (.getfield 138, 3) := by decide +kernel
theorem dX11_count_58 : decode cX11_count 58 = .ok (.ireturn, 1) := by decide +kernel
theorem dX11_count_59 : decode cX11_count 59 = .ok (.aload_n 0, 1) := by decide +kernel
theorem dX11_count_60 : decode cX11_count 60 = .ok (.getfield 10, 3) := by decide +kernel
theorem dX11_count_63 : decode cX11_count 63 = .ok (.getfield 241, 3) := by decide +kernel
theorem dX11_count_66 : decode cX11_count 66 = .ok (.ireturn, 1) := by decide +kernel
theorem dX11_count_67 : decode cX11_count 67 = .ok (.aload_n 0, 1) := by decide +kernel
theorem dX11_count_68 : decode cX11_count 68 = .ok (.getfield 10, 3) := by decide +kernel
theorem dX11_count_71 : decode cX11_count 71 = .ok (.getfield 93, 3) := by decide +kernel
theorem dX11_count_74 : decode cX11_count 74 = .ok (.invokevirtual 281, 3) := by decide +kernel
theorem dX11_count_77 : decode cX11_count 77 = .ok (.ireturn, 1) := by decide +kernel
theorem dX11_count_78 : decode cX11_count 78 = .ok (.aload_n 0, 1) := by decide +kernel
theorem dX11_count_79 : decode cX11_count 79 = .ok (.getfield 10, 3) := by decide +kernel
theorem dX11_count_82 : decode cX11_count 82 = .ok (.getfield 93, 3) := by decide +kernel
theorem dX11_count_85 : decode cX11_count 85 = .ok (.invokevirtual 284, 3) := by decide +kernel
theorem dX11_count_88 : decode cX11_count 88 = .ok (.ireturn, 1) := by decide +kernel
theorem dX11_count_89 : decode cX11_count 89 = .ok (.aload_n 0, 1) := by decide +kernel
theorem dX11_count_90 : decode cX11_count 90 = .ok (.getfield 10, 3) := by decide +kernel
theorem dX11_count_93 : decode cX11_count 93 = .ok (.getfield 93, 3) := by decide +kernel
theorem dX11_count_96 : decode cX11_count 96 = .ok (.invokevirtual 224, 3) := by decide +kernel
theorem dX11_count_99 : decode cX11_count 99 = .ok (.ireturn, 1) := by decide +kernel
theorem dX11_count_100 : decode cX11_count 100 = .ok (.aload_n 0, 1) := by decide +kernel
theorem dX11_count_101 : decode cX11_count 101 = .ok (.getfield 10, 3) := by decide +kernel
theorem dX11_count_104 : decode cX11_count 104 = .ok (.invokevirtual 287, 3) := by decide +kernel
theorem dX11_count_107 : decode cX11_count 107 = .ok (.ireturn, 1) := by decide +kernel
theorem dX11_count_108 : decode cX11_count 108 = .ok (.aload_n 0, 1) := by decide +kernel
theorem dX11_count_109 : decode cX11_count 109 = .ok (.getfield 33, 3) := by decide +kernel
theorem dX11_count_112 : decode cX11_count 112 = .ok (.getfield 254, 3) := by decide +kernel
theorem dX11_count_115 : decode cX11_count 115 = .ok (.ireturn, 1) := by decide +kernel
theorem dX11_count_116 : decode cX11_count 116 = .ok (.aload_n 0, 1) := by decide +kernel
theorem dX11_count_117 : decode cX11_count 117 = .ok (.getfield 26, 3) := by decide +kernel
theorem dX11_count_120 : decode cX11_count 120 = .ok (.getfield 290, 3) := by decide +kernel
theorem dX11_count_123 : decode cX11_count 123 = .ok (.ireturn, 1) := by decide +kernel
theorem dX11_count_124 : decode cX11_count 124 = .ok (.iload_n 1, 1) := by decide +kernel
theorem dX11_count_125 : decode cX11_count 125 = .ok (.bipush 11, 2) := by decide +kernel
theorem dX11_count_127 : decode cX11_count 127 = .ok (.if_icmp .lt 21, 3) := by decide +kernel
theorem dX11_count_130 : decode cX11_count 130 = .ok (.iload_n 1, 1) := by decide +kernel
theorem dX11_count_131 : decode cX11_count 131 = .ok (.bipush 16, 2) := by decide +kernel
theorem dX11_count_133 : decode cX11_count 133 = .ok (.if_icmp .gt 15, 3) := by decide +kernel
theorem dX11_count_136 : decode cX11_count 136 = .ok (.aload_n 0, 1) := by decide +kernel
theorem dX11_count_137 : decode cX11_count 137 = .ok (.getfield 37, 3) := by decide +kernel
theorem dX11_count_140 : decode cX11_count 140 = .ok (.iload_n 1, 1) := by decide +kernel
theorem dX11_count_141 : decode cX11_count 141 = .ok (.bipush 10, 2) := by decide +kernel
theorem dX11_count_143 : decode cX11_count 143 = .ok (.isub, 1) := by decide +kernel
theorem dX11_count_144 : decode cX11_count 144 = .ok (.iaload, 1) := by decide +kernel
theorem dX11_count_145 : decode cX11_count 145 = .ok (.goto 5, 3) := by decide +kernel
theorem dX11_count_148 : decode cX11_count 148 = .ok (.bipush (-9), 2) := by decide +kernel
theorem dX11_count_150 : decode cX11_count 150 = .ok (.ireturn, 1) := by decide +kernel
theorem dX11_refuse_0 : decode cX11_refuse 0 = .ok (.iload_n 1, 1) := by decide +kernel
theorem dX11_refuse_1 : decode cX11_refuse 1 = .ok (.ineg, 1) := by decide +kernel
theorem dX11_refuse_2 : decode cX11_refuse 2 = .ok (.istore_n 2, 1) := by decide +kernel
theorem dX11_refuse_3 : decode cX11_refuse 3 = .ok (.iload_n 2, 1) := by decide +kernel
theorem dX11_refuse_4 : decode cX11_refuse 4 = .ok (.ifCond .le 22, 3) := by decide +kernel
theorem dX11_refuse_7 : decode cX11_refuse 7 = .ok (.iload_n 2, 1) := by decide +kernel
theorem dX11_refuse_8 : decode cX11_refuse 8 = .ok (.aload_n 0, 1) := by decide +kernel
theorem dX11_refuse_9 : decode cX11_refuse 9 = .ok (.getfield 37, 3) := by decide +kernel
theorem dX11_refuse_12 : decode cX11_refuse 12 = .ok (.arraylength, 1) := by decide +kernel
theorem dX11_refuse_13 : decode cX11_refuse 13 = .ok (.if_icmp .ge 13, 3) := by decide +kernel
theorem dX11_refuse_16 : decode cX11_refuse 16 = .ok (.aload_n 0, 1) := by decide +kernel
theorem dX11_refuse_17 : decode cX11_refuse 17 = .ok (.getfield 37, 3) := by decide +kernel
theorem dX11_refuse_20 : decode cX11_refuse 20 = .ok (.iload_n 2, 1) := by decide +kernel
theorem dX11_refuse_21 : decode cX11_refuse 21 = .ok (.dup2, 1) := by decide +kernel
theorem dX11_refuse_22 : decode cX11_refuse 22 = .ok (.iaload, 1) := by decide +kernel
theorem dX11_refuse_23 : decode cX11_refuse 23 = .ok (.iconst 1, 1) := by decide +kernel
theorem dX11_refuse_24 : decode cX11_refuse 24 = .ok (.iadd, 1) := by decide +kernel
theorem dX11_refuse_25 : decode cX11_refuse 25 = .ok (.iastore, 1) := by decide +kernel
theorem dX11_refuse_26 : decode cX11_refuse 26 = .ok (.iload_n 1, 1) := by decide +kernel
theorem dX11_refuse_27 : decode cX11_refuse 27 = .ok (.ireturn, 1) := by decide +kernel
theorem dX11_runPlan_0 : decode cX11_runPlan 0 = .ok (.aload_n 0, 1) := by decide +kernel
theorem dX11_runPlan_1 : decode cX11_runPlan 1 = .ok (.getfield 44, 3) := by decide +kernel
theorem dX11_runPlan_4 : decode cX11_runPlan 4 = .ok (.aload_n 0, 1) := by decide +kernel
theorem dX11_runPlan_5 : decode cX11_runPlan 5 = .ok (.getfield 10, 3) := by decide +kernel
theorem dX11_runPlan_8 : decode cX11_runPlan 8 = .ok (.getfield 93, 3) := by decide +kernel
theorem dX11_runPlan_11 : decode cX11_runPlan 11 = .ok (.aload_n 0, 1) := by decide +kernel
theorem dX11_runPlan_12 : decode cX11_runPlan 12 = .ok (.getfield 10, 3) := by decide +kernel
theorem dX11_runPlan_15 : decode cX11_runPlan 15 = .ok (.getfield 118, 3) := by decide +kernel
theorem dX11_runPlan_18 : decode cX11_runPlan 18 = .ok (.iload_n 1, 1) := by decide +kernel
theorem dX11_runPlan_19 : decode cX11_runPlan 19 = .ok (.aaload, 1) := by decide +kernel
theorem dX11_runPlan_20 : decode cX11_runPlan 20 = .ok (.invokevirtual 164, 3) := by decide +kernel
theorem dX11_runPlan_23 : decode cX11_runPlan 23 = .ok (.aload_n 0, 1) := by decide +kernel
theorem dX11_runPlan_24 : decode cX11_runPlan 24 = .ok (.getfield 44, 3) := by decide +kernel
theorem dX11_runPlan_27 : decode cX11_runPlan 27 = .ok (.invokevirtual 168, 3) := by decide +kernel
theorem dX11_runPlan_30 : decode cX11_runPlan 30 = .ok (.ireturn, 1) := by decide +kernel
theorem dX11_finishWith_0 : decode cX11_finishWith 0 = .ok (.aload_n 0, 1) := by decide +kernel
theorem dX11_finishWith_1 : decode cX11_finishWith 1 = .ok (.getfield 44, 3) := by decide +kernel
theorem dX11_finishWith_4 : decode cX11_finishWith 4 = .ok (.aload_n 0, 1) := by decide +kernel
theorem dX11_finishWith_5 : decode cX11_finishWith 5 = .ok (.getfield 10, 3) := by decide +kernel
theorem dX11_finishWith_8 : decode cX11_finishWith 8 = .ok (.getfield 93, 3) := by decide +kernel
theorem dX11_finishWith_11 : decode cX11_finishWith 11 = .ok (.aload_n 0, 1) := by decide +kernel
theorem dX11_finishWith_12 : decode cX11_finishWith 12 = .ok (.getfield 10, 3) := by decide +kernel
theorem dX11_finishWith_15 : decode cX11_finishWith 15 = .ok (.getfield 118, 3) := by decide +kernel
theorem dX11_finishWith_18 : decode cX11_finishWith 18 = .ok (.iload_n 1, 1) := by decide +kernel
theorem dX11_finishWith_19 : decode cX11_finishWith 19 = .ok (.aaload, 1) := by decide +kernel
theorem dX11_finishWith_20 : decode cX11_finishWith 20 = .ok (.invokevirtual 164, 3) := by decide +kernel
theorem dX11_finishWith_23 : decode cX11_finishWith 23 = .ok (.aload_n 0, 1) := by decide +kernel
theorem dX11_finishWith_24 : decode cX11_finishWith 24 = .ok (.getfield 44, 3) := by decide +kernel
theorem dX11_finishWith_27 : decode cX11_finishWith 27 = .ok (.getfield 291, 3) := by decide +kernel
theorem dX11_finishWith_30 : decode cX11_finishWith 30 = .ok (.getfield 122, 3) := by decide +kernel
theorem dX11_finishWith_33 : decode cX11_finishWith 33 = .ok (.iload_n 2, 1) := by decide +kernel
theorem dX11_finishWith_34 : decode cX11_finishWith 34 = .ok (.bipush 9, 2) := by decide +kernel
theorem dX11_finishWith_36 : decode cX11_finishWith 36 = .ok (.aload_n 0, 1) := by decide +kernel
theorem dX11_finishWith_37 : decode cX11_finishWith 37 = .ok (.getfield 44, 3) := by decide +kernel
theorem dX11_finishWith_40 : decode cX11_finishWith 40 = .ok (.getfield 291, 3) := by decide +kernel
theorem dX11_finishWith_43 : decode cX11_finishWith 43 = .ok (.getfield 122, 3) := by decide +kernel
theorem dX11_finishWith_46 : decode cX11_finishWith 46 = .ok (.iload_n 2, 1) := by decide +kernel
theorem dX11_finishWith_47 : decode cX11_finishWith 47 = .ok (.iaload, 1) := by decide +kernel
theorem dX11_finishWith_48 : decode cX11_finishWith 48 = .ok (.iload_n 3, 1) := by decide +kernel
theorem dX11_finishWith_49 : decode cX11_finishWith 49 = .ok (.iadd, 1) := by decide +kernel
theorem dX11_finishWith_50 : decode cX11_finishWith 50 = .ok (.invokestatic 295, 3) := by decide +kernel
theorem dX11_finishWith_53 : decode cX11_finishWith 53 = .ok (.iastore, 1) := by decide +kernel
theorem dX11_finishWith_54 : decode cX11_finishWith 54 = .ok (.aload_n 0, 1) := by decide +kernel
theorem dX11_finishWith_55 : decode cX11_finishWith 55 = .ok (.getfield 44, 3) := by decide +kernel
theorem dX11_finishWith_58 : decode cX11_finishWith 58 = .ok (.invokevirtual 168, 3) := by decide +kernel
theorem dX11_finishWith_61 : decode cX11_finishWith 61 = .ok (.ireturn, 1) := by decide +kernel
theorem dX11_finishTrying_0 : decode cX11_finishTrying 0 = .ok (.aload_n 0, 1) := by decide +kernel
theorem dX11_finishTrying_1 : decode cX11_finishTrying 1 = .ok (.getfield 44, 3) := by decide +kernel
theorem dX11_finishTrying_4 : decode cX11_finishTrying 4 = .ok (.aload_n 0, 1) := by decide +kernel
theorem dX11_finishTrying_5 : decode cX11_finishTrying 5 = .ok (.getfield 10, 3) := by decide +kernel
theorem dX11_finishTrying_8 : decode cX11_finishTrying 8 = .ok (.getfield 93, 3) := by decide +kernel
theorem dX11_finishTrying_11 : decode cX11_finishTrying 11 = .ok (.aload_n 0, 1) := by decide +kernel
theorem dX11_finishTrying_12 : decode cX11_finishTrying 12 = .ok (.getfield 10, 3) := by decide +kernel
theorem dX11_finishTrying_15 : decode cX11_finishTrying 15 = .ok (.getfield 118, 3) := by decide +kernel
theorem dX11_finishTrying_18 : decode cX11_finishTrying 18 = .ok (.iload_n 1, 1) := by decide +kernel
theorem dX11_finishTrying_19 : decode cX11_finishTrying 19 = .ok (.aaload, 1) := by decide +kernel
theorem dX11_finishTrying_20 : decode cX11_finishTrying 20 = .ok (.invokevirtual 164, 3) := by decide +kernel
theorem dX11_finishTrying_23 : decode cX11_finishTrying 23 = .ok (.aload_n 0, 1) := by decide +kernel
theorem dX11_finishTrying_24 : decode cX11_finishTrying 24 = .ok (.getfield 44, 3) := by decide +kernel
theorem dX11_finishTrying_27 : decode cX11_finishTrying 27 = .ok (.getfield 291, 3) := by decide +kernel
theorem dX11_finishTrying_30 : decode cX11_finishTrying 30 = .ok (.getfield 127, 3) := by decide +kernel
theorem dX11_finishTrying_33 : decode cX11_finishTrying 33 = .ok (.iload_n 2, 1) := by decide +kernel
theorem dX11_finishTrying_34 : decode cX11_finishTrying 34 = .ok (.iload_n 3, 1) := by decide +kernel
theorem dX11_finishTrying_35 : decode cX11_finishTrying 35 = .ok (.iastore, 1) := by decide +kernel
theorem dX11_finishTrying_36 : decode cX11_finishTrying 36 = .ok (.aload_n 0, 1) := by decide +kernel
theorem dX11_finishTrying_37 : decode cX11_finishTrying 37 = .ok (.getfield 44, 3) := by decide +kernel
theorem dX11_finishTrying_40 : decode cX11_finishTrying 40 = .ok (.invokevirtual 168, 3) := by decide +kernel
theorem dX11_finishTrying_43 : decode cX11_finishTrying 43 = .ok (.ireturn, 1) := by decide +kernel
theorem dX11_placeBehind_0 : decode cX11_placeBehind 0 = .ok (.iconst 1, 1) := by decide +kernel
theorem dX11_placeBehind_1 : decode cX11_placeBehind 1 = .ok (.istore_n 2, 1) := by decide +kernel
theorem dX11_placeBehind_2 : decode cX11_placeBehind 2 = .ok (.iconst 0, 1) := by decide +kernel
theorem dX11_placeBehind_3 : decode cX11_placeBehind 3 = .ok (.istore_n 3, 1) := by decide +kernel
theorem dX11_placeBehind_4 : decode cX11_placeBehind 4 = .ok (.iload_n 3, 1) := by decide +kernel
theorem dX11_placeBehind_5 : decode cX11_placeBehind 5 = .ok (.aload_n 0, 1) := by decide +kernel
theorem dX11_placeBehind_6 : decode cX11_placeBehind 6 = .ok (.getfield 10, 3) := by decide +kernel
theorem dX11_placeBehind_9 : decode cX11_placeBehind 9 = .ok (.getfield 241, 3) := by decide +kernel
theorem dX11_placeBehind_12 : decode cX11_placeBehind 12 = .ok (.if_icmp .ge 21, 3) := by decide +kernel
theorem dX11_placeBehind_15 : decode cX11_placeBehind 15 = .ok (.aload_n 0, 1) := by decide +kernel
theorem dX11_placeBehind_16 : decode cX11_placeBehind 16 = .ok (.iload_n 3, 1) := by decide +kernel
theorem dX11_placeBehind_17 : decode cX11_placeBehind 17 = .ok (.invokevirtual 142, 3) := by decide +kernel
theorem dX11_placeBehind_20 : decode cX11_placeBehind 20 = .ok (.iload_n 1, 1) := by decide +kernel
theorem dX11_placeBehind_21 : decode cX11_placeBehind 21 = .ok (.if_icmp .ge 6, 3) := by decide +kernel
theorem dX11_placeBehind_24 : decode cX11_placeBehind 24 = .ok (.iinc 2 1, 3) := by decide +kernel
theorem dX11_placeBehind_27 : decode cX11_placeBehind 27 = .ok (.iinc 3 1, 3) := by decide +kernel
theorem dX11_placeBehind_30 : decode cX11_placeBehind 30 = .ok (.goto (-26), 3) := by decide +kernel
theorem dX11_placeBehind_33 : decode cX11_placeBehind 33 = .ok (.iload_n 2, 1) := by decide +kernel
theorem dX11_placeBehind_34 : decode cX11_placeBehind 34 = .ok (.ireturn, 1) := by decide +kernel
theorem dX11_isPart_0 : decode cX11_isPart 0 = .ok (.iload_n 0, 1) := by decide +kernel
theorem dX11_isPart_1 : decode cX11_isPart 1 = .ok (.ifCond .eq 8, 3) := by decide +kernel
theorem dX11_isPart_4 : decode cX11_isPart 4 = .ok (.iload_n 0, 1) := by decide +kernel
theorem dX11_isPart_5 : decode cX11_isPart 5 = .ok (.iconst 1, 1) := by decide +kernel
theorem dX11_isPart_6 : decode cX11_isPart 6 = .ok (.if_icmp .ne 7, 3) := by decide +kernel
theorem dX11_isPart_9 : decode cX11_isPart 9 = .ok (.iconst 1, 1) := by decide +kernel
theorem dX11_isPart_10 : decode cX11_isPart 10 = .ok (.goto 4, 3) := by decide +kernel
theorem dX11_isPart_13 : decode cX11_isPart 13 = .ok (.iconst 0, 1) := by decide +kernel
theorem dX11_isPart_14 : decode cX11_isPart 14 = .ok (.ireturn, 1) := by decide +kernel
theorem dX11_refusalOfOdds_0 : decode cX11_refusalOfOdds 0 = .ok (.aload_n 0, 1) := by decide +kernel
theorem dX11_refusalOfOdds_1 : decode cX11_refusalOfOdds 1 = .ok (.getfield 10, 3) := by decide +kernel
theorem dX11_refusalOfOdds_4 : decode cX11_refusalOfOdds 4 = .ok (.iload_n 1, 1) := by decide +kernel
theorem dX11_refusalOfOdds_5 : decode cX11_refusalOfOdds 5 = .ok (.invokevirtual 117, 3) := by decide +kernel
theorem dX11_refusalOfOdds_8 : decode cX11_refusalOfOdds 8 = .ok (.ifCond .ne 5, 3) := by decide +kernel
theorem dX11_refusalOfOdds_11 : decode cX11_refusalOfOdds 11 = .ok (.iconst (-1), 1) := by decide +kernel
theorem dX11_refusalOfOdds_12 : decode cX11_refusalOfOdds 12 = .ok (.ireturn, 1) := by decide +kernel
theorem dX11_refusalOfOdds_13 : decode cX11_refusalOfOdds 13 = .ok (.iload_n 2, 1) := by decide +kernel
theorem dX11_refusalOfOdds_14 : decode cX11_refusalOfOdds 14 = .ok (.iconst 2, 1) := by decide +kernel
theorem dX11_refusalOfOdds_15 : decode cX11_refusalOfOdds 15 = .ok (.if_icmp .lt 12, 3) := by decide +kernel
theorem dX11_refusalOfOdds_18 : decode cX11_refusalOfOdds 18 = .ok (.iload_n 3, 1) := by decide +kernel
theorem dX11_refusalOfOdds_19 : decode cX11_refusalOfOdds 19 = .ok (.ifCond .lt 8, 3) := by decide +kernel
theorem dX11_refusalOfOdds_22 : decode cX11_refusalOfOdds 22 = .ok (.iload 4, 2) := by decide +kernel
theorem dX11_refusalOfOdds_24 : decode cX11_refusalOfOdds 24 = .ok (.ifCond .ge 6, 3) := by decide +kernel
theorem dX11_refusalOfOdds_27 : decode cX11_refusalOfOdds 27 = .ok (.bipush (-4), 2) := by decide +kernel
theorem dX11_refusalOfOdds_29 : decode cX11_refusalOfOdds 29 = .ok (.ireturn, 1) := by decide +kernel
theorem dX11_refusalOfOdds_30 : decode cX11_refusalOfOdds 30 = .ok (.iload_n 2, 1) := by decide +kernel
theorem dX11_refusalOfOdds_31 : decode cX11_refusalOfOdds 31 = .ok (.bipush 20, 2) := by decide +kernel
theorem dX11_refusalOfOdds_33 : decode cX11_refusalOfOdds 33 = .ok (.if_icmp .gt 17, 3) := by decide +kernel
theorem dX11_refusalOfOdds_36 : decode cX11_refusalOfOdds 36 = .ok (.iload_n 3, 1) := by decide +kernel
theorem dX11_refusalOfOdds_37 : decode cX11_refusalOfOdds 37 = .ok (.bipush 99, 2) := by decide +kernel
theorem dX11_refusalOfOdds_39 : decode cX11_refusalOfOdds 39 = .ok (.if_icmp .gt 11, 3) := by decide +kernel
theorem dX11_refusalOfOdds_42 : decode cX11_refusalOfOdds 42 = .ok (.iload 4, 2) := by decide +kernel
theorem dX11_refusalOfOdds_44 : decode cX11_refusalOfOdds 44 = .ok (.sipush 999, 3) := by decide +kernel
theorem dX11_refusalOfOdds_47 : decode cX11_refusalOfOdds 47 = .ok (.if_icmp .le 8, 3) := by decide +kernel
theorem dX11_refusalOfOdds_50 : decode cX11_refusalOfOdds 50 = .ok (.bipush (-6), 2) := by decide +kernel
theorem dX11_refusalOfOdds_52 : decode cX11_refusalOfOdds 52 = .ok (.goto 4, 3) := by decide +kernel
theorem dX11_refusalOfOdds_55 : decode cX11_refusalOfOdds 55 = .ok (.iconst 0, 1) := by decide +kernel
theorem dX11_refusalOfOdds_56 : decode cX11_refusalOfOdds 56 = .ok (.ireturn, 1) := by decide +kernel
theorem dX11_kindsAsTold_0 : decode cX11_kindsAsTold 0 = .ok (.iconst 0, 1) := by decide +kernel
theorem dX11_kindsAsTold_1 : decode cX11_kindsAsTold 1 = .ok (.istore_n 2, 1) := by decide +kernel
theorem dX11_kindsAsTold_2 : decode cX11_kindsAsTold 2 = .ok (.iconst 0, 1) := by decide +kernel
theorem dX11_kindsAsTold_3 : decode cX11_kindsAsTold 3 = .ok (.istore_n 3, 1) := by decide +kernel
theorem dX11_kindsAsTold_4 : decode cX11_kindsAsTold 4 = .ok (.iload_n 3, 1) := by decide +kernel
theorem dX11_kindsAsTold_5 : decode cX11_kindsAsTold 5 = .ok (.bipush 7, 2) := by decide +kernel
theorem dX11_kindsAsTold_7 : decode cX11_kindsAsTold 7 = .ok (.if_icmp .ge 36, 3) := by decide +kernel
theorem dX11_kindsAsTold_10 : decode cX11_kindsAsTold 10 = .ok (.aload_n 0, 1) := by decide +kernel
theorem dX11_kindsAsTold_11 : decode cX11_kindsAsTold 11 = .ok (.iload_n 1, 1) := by decide +kernel
theorem dX11_kindsAsTold_12 : decode cX11_kindsAsTold 12 = .ok (.iload_n 3, 1) := by decide +kernel
theorem dX11_kindsAsTold_13 : decode cX11_kindsAsTold 13 = .ok (.aload_n 0, 1) := by decide +kernel
theorem dX11_kindsAsTold_14 : decode cX11_kindsAsTold 14 = .ok (.getfield 10, 3) := by decide +kernel
theorem dX11_kindsAsTold_17 : decode cX11_kindsAsTold 17 = .ok (.getfield 93, 3) := by decide +kernel
theorem dX11_kindsAsTold_20 : decode cX11_kindsAsTold 20 = .ok (.getfield 106, 3) := by decide +kernel
theorem dX11_kindsAsTold_23 : decode cX11_kindsAsTold 23 = .ok (.iload_n 1, 1) := by decide +kernel
theorem dX11_kindsAsTold_24 : decode cX11_kindsAsTold 24 = .ok (.iaload, 1) := by decide +kernel
theorem dX11_kindsAsTold_25 : decode cX11_kindsAsTold 25 = .ok (.invokevirtual 301, 3) := by decide +kernel
theorem dX11_kindsAsTold_28 : decode cX11_kindsAsTold 28 = .ok (.ifCond .eq 9, 3) := by decide +kernel
theorem dX11_kindsAsTold_31 : decode cX11_kindsAsTold 31 = .ok (.iload_n 2, 1) := by decide +kernel
theorem dX11_kindsAsTold_32 : decode cX11_kindsAsTold 32 = .ok (.iconst 1, 1) := by decide +kernel
theorem dX11_kindsAsTold_33 : decode cX11_kindsAsTold 33 = .ok (.iload_n 3, 1) := by decide +kernel
theorem dX11_kindsAsTold_34 : decode cX11_kindsAsTold 34 = .ok (.ishl, 1) := by decide +kernel
theorem dX11_kindsAsTold_35 : decode cX11_kindsAsTold 35 = .ok (.ior, 1) := by decide +kernel
theorem dX11_kindsAsTold_36 : decode cX11_kindsAsTold 36 = .ok (.istore_n 2, 1) := by decide +kernel
theorem dX11_kindsAsTold_37 : decode cX11_kindsAsTold 37 = .ok (.iinc 3 1, 3) := by decide +kernel
theorem dX11_kindsAsTold_40 : decode cX11_kindsAsTold 40 = .ok (.goto (-36), 3) := by decide +kernel
theorem dX11_kindsAsTold_43 : decode cX11_kindsAsTold 43 = .ok (.iload_n 2, 1) := by decide +kernel
theorem dX11_kindsAsTold_44 : decode cX11_kindsAsTold 44 = .ok (.ireturn, 1) := by decide +kernel
theorem dX11_figuresAsTold_0 : decode cX11_figuresAsTold 0 = .ok (.iconst 0, 1) := by decide +kernel
theorem dX11_figuresAsTold_1 : decode cX11_figuresAsTold 1 = .ok (.istore_n 2, 1) := by decide +kernel
theorem dX11_figuresAsTold_2 : decode cX11_figuresAsTold 2 = .ok (.iconst 0, 1) := by decide +kernel
theorem dX11_figuresAsTold_3 : decode cX11_figuresAsTold 3 = .ok (.istore_n 3, 1) := by decide +kernel
theorem dX11_figuresAsTold_4 : decode cX11_figuresAsTold 4 = .ok (.iload_n 3, 1) := by decide +kernel
theorem dX11_figuresAsTold_5 : decode cX11_figuresAsTold 5 = .ok (.bipush 9, 2) := by decide +kernel
theorem dX11_figuresAsTold_7 : decode cX11_figuresAsTold 7 = .ok (.if_icmp .gt 36, 3) := by decide +kernel
theorem dX11_figuresAsTold_10 : decode cX11_figuresAsTold 10 = .ok (.aload_n 0, 1) := by decide +kernel
theorem dX11_figuresAsTold_11 : decode cX11_figuresAsTold 11 = .ok (.iload_n 1, 1) := by decide +kernel
theorem dX11_figuresAsTold_12 : decode cX11_figuresAsTold 12 = .ok (.aload_n 0, 1) := by decide +kernel
theorem dX11_figuresAsTold_13 : decode cX11_figuresAsTold 13 = .ok (.getfield 10, 3) := by decide +kernel
theorem dX11_figuresAsTold_16 : decode cX11_figuresAsTold 16 = .ok (.getfield 93, 3) := by decide +kernel
theorem dX11_figuresAsTold_19 : decode cX11_figuresAsTold 19 = .ok (.getfield 103, 3) := by decide +kernel
theorem dX11_figuresAsTold_22 : decode cX11_figuresAsTold 22 = .ok (.iload_n 1, 1) := by decide +kernel
theorem dX11_figuresAsTold_23 : decode cX11_figuresAsTold 23 = .ok (.iaload, 1) := by decide +kernel
theorem dX11_figuresAsTold_24 : decode cX11_figuresAsTold 24 = .ok (.iload_n 3, 1) := by decide +kernel
theorem dX11_figuresAsTold_25 : decode cX11_figuresAsTold 25 = .ok (.invokevirtual 301, 3) := by decide +kernel
theorem dX11_figuresAsTold_28 : decode cX11_figuresAsTold 28 = .ok (.ifCond .eq 9, 3) := by decide +kernel
theorem dX11_figuresAsTold_31 : decode cX11_figuresAsTold 31 = .ok (.iload_n 2, 1) := by decide +kernel
theorem dX11_figuresAsTold_32 : decode cX11_figuresAsTold 32 = .ok (.iconst 1, 1) := by decide +kernel
theorem dX11_figuresAsTold_33 : decode cX11_figuresAsTold 33 = .ok (.iload_n 3, 1) := by decide +kernel
theorem dX11_figuresAsTold_34 : decode cX11_figuresAsTold 34 = .ok (.ishl, 1) := by decide +kernel
theorem dX11_figuresAsTold_35 : decode cX11_figuresAsTold 35 = .ok (.ior, 1) := by decide +kernel
theorem dX11_figuresAsTold_36 : decode cX11_figuresAsTold 36 = .ok (.istore_n 2, 1) := by decide +kernel
theorem dX11_figuresAsTold_37 : decode cX11_figuresAsTold 37 = .ok (.iinc 3 1, 3) := by decide +kernel
theorem dX11_figuresAsTold_40 : decode cX11_figuresAsTold 40 = .ok (.goto (-36), 3) := by decide +kernel
theorem dX11_figuresAsTold_43 : decode cX11_figuresAsTold 43 = .ok (.iload_n 2, 1) := by decide +kernel
theorem dX11_figuresAsTold_44 : decode cX11_figuresAsTold 44 = .ok (.ireturn, 1) := by decide +kernel
theorem dX11_isAsTold_0 : decode cX11_isAsTold 0 = .ok (.iconst 0, 1) := by decide +kernel
theorem dX11_isAsTold_1 : decode cX11_isAsTold 1 = .ok (.istore 4, 2) := by decide +kernel
theorem dX11_isAsTold_3 : decode cX11_isAsTold 3 = .ok (.iload 4, 2) := by decide +kernel
theorem dX11_isAsTold_5 : decode cX11_isAsTold 5 = .ok (.aload_n 0, 1) := by decide +kernel
theorem dX11_isAsTold_6 : decode cX11_isAsTold 6 = .ok (.getfield 10, 3) := by decide +kernel
theorem dX11_isAsTold_9 : decode cX11_isAsTold 9 = .ok (.getfield 241, 3) := by decide +kernel
theorem dX11_isAsTold_12 : decode cX11_isAsTold 12 = .ok (.if_icmp .ge 83, 3) := by decide +kernel
theorem dX11_isAsTold_15 : decode cX11_isAsTold 15 = .ok (.aload_n 0, 1) := by decide +kernel
theorem dX11_isAsTold_16 : decode cX11_isAsTold 16 = .ok (.getfield 44, 3) := by decide +kernel
theorem dX11_isAsTold_19 : decode cX11_isAsTold 19 = .ok (.aload_n 0, 1) := by decide +kernel
theorem dX11_isAsTold_20 : decode cX11_isAsTold 20 = .ok (.getfield 10, 3) := by decide +kernel
theorem dX11_isAsTold_23 : decode cX11_isAsTold 23 = .ok (.getfield 93, 3) := by decide +kernel
theorem dX11_isAsTold_26 : decode cX11_isAsTold 26 = .ok (.aload_n 0, 1) := by decide +kernel
theorem dX11_isAsTold_27 : decode cX11_isAsTold 27 = .ok (.getfield 10, 3) := by decide +kernel
theorem dX11_isAsTold_30 : decode cX11_isAsTold 30 = .ok (.getfield 118, 3) := by decide +kernel
theorem dX11_isAsTold_33 : decode cX11_isAsTold 33 = .ok (.iload 4, 2) := by decide +kernel
theorem dX11_isAsTold_35 : decode cX11_isAsTold 35 = .ok (.aaload, 1) := by decide +kernel
theorem dX11_isAsTold_36 : decode cX11_isAsTold 36 = .ok (.invokevirtual 164, 3) := by decide +kernel
theorem dX11_isAsTold_39 : decode cX11_isAsTold 39 = .ok (.aload_n 0, 1) := by decide +kernel
theorem dX11_isAsTold_40 : decode cX11_isAsTold 40 = .ok (.getfield 44, 3) := by decide +kernel
theorem dX11_isAsTold_43 : decode cX11_isAsTold 43 = .ok (.getfield 214, 3) := by decide +kernel
theorem dX11_isAsTold_46 : decode cX11_isAsTold 46 = .ok (.iload_n 1, 1) := by decide +kernel
theorem dX11_isAsTold_47 : decode cX11_isAsTold 47 = .ok (.iload_n 2, 1) := by decide +kernel
theorem dX11_isAsTold_48 : decode cX11_isAsTold 48 = .ok (.iload_n 3, 1) := by decide +kernel
theorem dX11_isAsTold_49 : decode cX11_isAsTold 49 = .ok (.invokevirtual 130, 3) := by decide +kernel
theorem dX11_isAsTold_52 : decode cX11_isAsTold 52 = .ok (.aload_n 0, 1) := by decide +kernel
theorem dX11_isAsTold_53 : decode cX11_isAsTold 53 = .ok (.getfield 44, 3) := by decide +kernel
theorem dX11_isAsTold_56 : decode cX11_isAsTold 56 = .ok (.invokevirtual 168, 3) := by decide +kernel
theorem dX11_isAsTold_59 : decode cX11_isAsTold 59 = .ok (.pop, 1) := by decide +kernel
theorem dX11_isAsTold_60 : decode cX11_isAsTold 60 = .ok (.bipush 99, 2) := by decide +kernel
theorem dX11_isAsTold_62 : decode cX11_isAsTold 62 = .ok (.aload_n 0, 1) := by decide +kernel
theorem dX11_isAsTold_63 : decode cX11_isAsTold 63 = .ok (.getfield 44, 3) := by decide +kernel
theorem dX11_isAsTold_66 : decode cX11_isAsTold 66 = .ok (.getfield 145, 3) := by decide +kernel
theorem dX11_isAsTold_69 : decode cX11_isAsTold 69 = .ok (.iload_n 1, 1) := by decide +kernel
theorem dX11_isAsTold_70 : decode cX11_isAsTold 70 = .ok (.iaload, 1) := by decide +kernel
theorem dX11_isAsTold_71 : decode cX11_isAsTold 71 = .ok (.invokestatic 295, 3) := by decide +kernel
theorem dX11_isAsTold_74 : decode cX11_isAsTold 74 = .ok (.aload_n 0, 1) := by decide +kernel
theorem dX11_isAsTold_75 : decode cX11_isAsTold 75 = .ok (.getfield 33, 3) := by decide +kernel
theorem dX11_isAsTold_78 : decode cX11_isAsTold 78 = .ok (.getfield 305, 3) := by decide +kernel
theorem dX11_isAsTold_81 : decode cX11_isAsTold 81 = .ok (.iload 4, 2) := by decide +kernel
theorem dX11_isAsTold_83 : decode cX11_isAsTold 83 = .ok (.iaload, 1) := by decide +kernel
theorem dX11_isAsTold_84 : decode cX11_isAsTold 84 = .ok (.if_icmp .eq 5, 3) := by decide +kernel
theorem dX11_isAsTold_87 : decode cX11_isAsTold 87 = .ok (.iconst 0, 1) := by decide +kernel
theorem dX11_isAsTold_88 : decode cX11_isAsTold 88 = .ok (.ireturn, 1) := by decide +kernel
theorem dX11_isAsTold_89 : decode cX11_isAsTold 89 = .ok (.iinc 4 1, 3) := by decide +kernel
theorem dX11_isAsTold_92 : decode cX11_isAsTold 92 = .ok (.goto (-89), 3) := by decide +kernel
theorem dX11_isAsTold_95 : decode cX11_isAsTold 95 = .ok (.iconst 1, 1) := by decide +kernel
theorem dX11_isAsTold_96 : decode cX11_isAsTold 96 = .ok (.ireturn, 1) := by decide +kernel
theorem dX11_raceByLot_0 : decode cX11_raceByLot 0 = .ok (.iconst 1, 1) := by decide +kernel
theorem dX11_raceByLot_1 : decode cX11_raceByLot 1 = .ok (.istore_n 1, 1) := by decide +kernel
theorem dX11_raceByLot_2 : decode cX11_raceByLot 2 = .ok (.iconst 0, 1) := by decide +kernel
theorem dX11_raceByLot_3 : decode cX11_raceByLot 3 = .ok (.istore_n 2, 1) := by decide +kernel
theorem dX11_raceByLot_4 : decode cX11_raceByLot 4 = .ok (.iload_n 2, 1) := by decide +kernel
theorem dX11_raceByLot_5 : decode cX11_raceByLot 5 = .ok (.aload_n 0, 1) := by decide +kernel
theorem dX11_raceByLot_6 : decode cX11_raceByLot 6 = .ok (.getfield 10, 3) := by decide +kernel
theorem dX11_raceByLot_9 : decode cX11_raceByLot 9 = .ok (.getfield 241, 3) := by decide +kernel
theorem dX11_raceByLot_12 : decode cX11_raceByLot 12 = .ok (.if_icmp .ge 110, 3) := by decide +kernel
theorem dX11_raceByLot_15 : decode cX11_raceByLot 15 = .ok (.aload_n 0, 1) := by decide +kernel
theorem dX11_raceByLot_16 : decode cX11_raceByLot 16 = .ok (.getfield 44, 3) := by decide +kernel
theorem dX11_raceByLot_19 : decode cX11_raceByLot 19 = .ok (.aload_n 0, 1) := by decide +kernel
theorem dX11_raceByLot_20 : decode cX11_raceByLot 20 = .ok (.getfield 10, 3) := by decide +kernel
theorem dX11_raceByLot_23 : decode cX11_raceByLot 23 = .ok (.getfield 93, 3) := by decide +kernel
theorem dX11_raceByLot_26 : decode cX11_raceByLot 26 = .ok (.aload_n 0, 1) := by decide +kernel
theorem dX11_raceByLot_27 : decode cX11_raceByLot 27 = .ok (.getfield 10, 3) := by decide +kernel
theorem dX11_raceByLot_30 : decode cX11_raceByLot 30 = .ok (.getfield 118, 3) := by decide +kernel
theorem dX11_raceByLot_33 : decode cX11_raceByLot 33 = .ok (.iload_n 2, 1) := by decide +kernel
theorem dX11_raceByLot_34 : decode cX11_raceByLot 34 = .ok (.aaload, 1) := by decide +kernel
theorem dX11_raceByLot_35 : decode cX11_raceByLot 35 = .ok (.invokevirtual 164, 3) := by decide +kernel
theorem dX11_raceByLot_38 : decode cX11_raceByLot 38 = .ok (.iconst 0, 1) := by decide +kernel
theorem dX11_raceByLot_39 : decode cX11_raceByLot 39 = .ok (.istore_n 3, 1) := by decide +kernel
theorem dX11_raceByLot_40 : decode cX11_raceByLot 40 = .ok (.iload_n 3, 1) := by decide +kernel
theorem dX11_raceByLot_41 : decode cX11_raceByLot 41 = .ok (.aload_n 0, 1) := by decide +kernel
theorem dX11_raceByLot_42 : decode cX11_raceByLot 42 = .ok (.getfield 10, 3) := by decide +kernel
theorem dX11_raceByLot_45 : decode cX11_raceByLot 45 = .ok (.getfield 93, 3) := by decide +kernel
theorem dX11_raceByLot_48 : decode cX11_raceByLot 48 = .ok (.getfield 138, 3) := by decide +kernel
theorem dX11_raceByLot_51 : decode cX11_raceByLot 51 = .ok (.if_icmp .ge 29, 3) := by decide +kernel
theorem dX11_raceByLot_54 : decode cX11_raceByLot 54 = .ok (.aload_n 0, 1) := by decide +kernel
theorem dX11_raceByLot_55 : decode cX11_raceByLot 55 = .ok (.getfield 44, 3) := by decide +kernel
theorem dX11_raceByLot_58 : decode cX11_raceByLot 58 = .ok (.getfield 291, 3) := by decide +kernel
theorem dX11_raceByLot_61 : decode cX11_raceByLot 61 = .ok (.getfield 127, 3) := by decide +kernel
theorem dX11_raceByLot_64 : decode cX11_raceByLot 64 = .ok (.iload_n 3, 1) := by decide +kernel
theorem dX11_raceByLot_65 : decode cX11_raceByLot 65 = .ok (.aload_n 0, 1) := by decide +kernel
theorem dX11_raceByLot_66 : decode cX11_raceByLot 66 = .ok (.getfield 68, 3) := by decide +kernel
theorem dX11_raceByLot_69 : decode cX11_raceByLot 69 = .ok (.iconst 4, 1) := by decide +kernel
theorem dX11_raceByLot_70 : decode cX11_raceByLot 70 = .ok (.invokevirtual 308, 3) := by decide +kernel
theorem dX11_raceByLot_73 : decode cX11_raceByLot 73 = .ok (.iastore, 1) := by decide +kernel
theorem dX11_raceByLot_74 : decode cX11_raceByLot 74 = .ok (.iinc 3 1, 3) := by decide +kernel
theorem dX11_raceByLot_77 : decode cX11_raceByLot 77 = .ok (.goto (-37), 3) := by decide +kernel
theorem dX11_raceByLot_80 : decode cX11_raceByLot 80 = .ok (.aload_n 0, 1) := by decide +kernel
theorem dX11_raceByLot_81 : decode cX11_raceByLot 81 = .ok (.getfield 44, 3) := by decide +kernel
theorem dX11_raceByLot_84 : decode cX11_raceByLot 84 = .ok (.invokevirtual 168, 3) := by decide +kernel
theorem dX11_raceByLot_87 : decode cX11_raceByLot 87 = .ok (.istore_n 3, 1) := by decide +kernel
theorem dX11_raceByLot_88 : decode cX11_raceByLot 88 = .ok (.iload_n 2, 1) := by decide +kernel
theorem dX11_raceByLot_89 : decode cX11_raceByLot 89 = .ok (.ifCond .ne 14, 3) := by decide +kernel
theorem dX11_raceByLot_92 : decode cX11_raceByLot 92 = .ok (.aload_n 0, 1) := by decide +kernel
theorem dX11_raceByLot_93 : decode cX11_raceByLot 93 = .ok (.getfield 68, 3) := by decide +kernel
theorem dX11_raceByLot_96 : decode cX11_raceByLot 96 = .ok (.iload_n 3, 1) := by decide +kernel
theorem dX11_raceByLot_97 : decode cX11_raceByLot 97 = .ok (.putfield 275, 3) := by decide +kernel
theorem dX11_raceByLot_100 : decode cX11_raceByLot 100 = .ok (.goto 16, 3) := by decide +kernel
theorem dX11_raceByLot_103 : decode cX11_raceByLot 103 = .ok (.iload_n 3, 1) := by decide +kernel
theorem dX11_raceByLot_104 : decode cX11_raceByLot 104 = .ok (.aload_n 0, 1) := by decide +kernel
theorem dX11_raceByLot_105 : decode cX11_raceByLot 105 = .ok (.getfield 68, 3) := by decide +kernel
theorem dX11_raceByLot_108 : decode cX11_raceByLot 108 = .ok (.getfield 275, 3) := by decide +kernel
theorem dX11_raceByLot_111 : decode cX11_raceByLot 111 = .ok (.if_icmp .ge 5, 3) := by decide +kernel
theorem dX11_raceByLot_114 : decode cX11_raceByLot 114 = .ok (.iconst 0, 1) := by decide +kernel
theorem dX11_raceByLot_115 : decode cX11_raceByLot 115 = .ok (.istore_n 1, 1) := by decide +kernel
theorem dX11_raceByLot_116 : decode cX11_raceByLot 116 = .ok (.iinc 2 1, 3) := by decide +kernel
theorem dX11_raceByLot_119 : decode cX11_raceByLot 119 = .ok (.goto (-115), 3) := by decide +kernel
theorem dX11_raceByLot_122 : decode cX11_raceByLot 122 = .ok (.iload_n 1, 1) := by decide +kernel
theorem dX11_raceByLot_123 : decode cX11_raceByLot 123 = .ok (.ireturn, 1) := by decide +kernel
