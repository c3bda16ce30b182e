/-! decode rows: the reference, second half -/
theorem dX12_section_0 : decode cX12_section 0 = .ok (.aload_n 0, 1) := by decide +kernel
theorem dX12_section_1 : decode cX12_section 1 = .ok (.iload_n 1, 1) := by decide +kernel
theorem dX12_section_2 : decode cX12_section 2 = .ok (.invokevirtual 139, 3) := by decide +kernel
theorem dX12_section_5 : decode cX12_section 5 = .ok (.ifCond .ne 9, 3) := by decide +kernel
theorem dX12_section_8 : decode cX12_section 8 = .ok (.aload_n 0, 1) := by decide +kernel
theorem dX12_section_9 : decode cX12_section 9 = .ok (.iconst (-1), 1) := by decide +kernel
theorem dX12_section_10 : decode cX12_section 10 = .ok (.invokevirtual 56, 3) := by decide +kernel
theorem dX12_section_13 : decode cX12_section 13 = .ok (.ireturn, 1) := by decide +kernel
theorem dX12_section_14 : decode cX12_section 14 = .ok (.iload_n 2, 1) := by decide +kernel
theorem dX12_section_15 : decode cX12_section 15 = .ok (.iconst 0, 1) := by decide +kernel
theorem dX12_section_16 : decode cX12_section 16 = .ok (.iconst 2, 1) := by decide +kernel
theorem dX12_section_17 : decode cX12_section 17 = .ok (.invokestatic 62, 3) := by decide +kernel
theorem dX12_section_20 : decode cX12_section 20 = .ok (.ifCond .eq 16, 3) := by decide +kernel
theorem dX12_section_23 : decode cX12_section 23 = .ok (.aload_n 0, 1) := by decide +kernel
theorem dX12_section_24 : decode cX12_section 24 = .ok (.getfield 9, 3) := by decide +kernel
theorem dX12_section_27 : decode cX12_section 27 = .ok (.iload_n 1, 1) := by decide +kernel
theorem dX12_section_28 : decode cX12_section 28 = .ok (.iload_n 2, 1) := by decide +kernel
theorem dX12_section_29 : decode cX12_section 29 = .ok (.invokestatic 66, 3) := by decide +kernel
theorem dX12_section_32 : decode cX12_section 32 = .ok (.iaload, 1) := by decide +kernel
theorem dX12_section_33 : decode cX12_section 33 = .ok (.goto 25, 3) := by decide +kernel
theorem dX12_section_36 : decode cX12_section 36 = .ok (.iload_n 2, 1) := by decide +kernel
theorem dX12_section_37 : decode cX12_section 37 = .ok (.iconst 3, 1) := by decide +kernel
theorem dX12_section_38 : decode cX12_section 38 = .ok (.if_icmp .ne 14, 3) := by decide +kernel
theorem dX12_section_41 : decode cX12_section 41 = .ok (.aload_n 0, 1) := by decide +kernel
theorem dX12_section_42 : decode cX12_section 42 = .ok (.getfield 9, 3) := by decide +kernel
theorem dX12_section_45 : decode cX12_section 45 = .ok (.iload_n 1, 1) := by decide +kernel
theorem dX12_section_46 : decode cX12_section 46 = .ok (.invokestatic 81, 3) := by decide +kernel
theorem dX12_section_49 : decode cX12_section 49 = .ok (.goto 9, 3) := by decide +kernel
theorem dX12_section_52 : decode cX12_section 52 = .ok (.aload_n 0, 1) := by decide +kernel
theorem dX12_section_53 : decode cX12_section 53 = .ok (.bipush (-2), 2) := by decide +kernel
theorem dX12_section_55 : decode cX12_section 55 = .ok (.invokevirtual 56, 3) := by decide +kernel
theorem dX12_section_58 : decode cX12_section 58 = .ok (.ireturn, 1) := by decide +kernel
theorem dX12_athlete_0 : decode cX12_athlete 0 = .ok (.aload_n 0, 1) := by decide +kernel
theorem dX12_athlete_1 : decode cX12_athlete 1 = .ok (.iload_n 1, 1) := by decide +kernel
theorem dX12_athlete_2 : decode cX12_athlete 2 = .ok (.invokevirtual 136, 3) := by decide +kernel
theorem dX12_athlete_5 : decode cX12_athlete 5 = .ok (.ifCond .ne 9, 3) := by decide +kernel
theorem dX12_athlete_8 : decode cX12_athlete 8 = .ok (.aload_n 0, 1) := by decide +kernel
theorem dX12_athlete_9 : decode cX12_athlete 9 = .ok (.iconst (-1), 1) := by decide +kernel
theorem dX12_athlete_10 : decode cX12_athlete 10 = .ok (.invokevirtual 56, 3) := by decide +kernel
theorem dX12_athlete_13 : decode cX12_athlete 13 = .ok (.ireturn, 1) := by decide +kernel
theorem dX12_athlete_14 : decode cX12_athlete 14 = .ok (.iload_n 2, 1) := by decide +kernel
theorem dX12_athlete_15 : decode cX12_athlete 15 = .ok (.iconst 0, 1) := by decide +kernel
theorem dX12_athlete_16 : decode cX12_athlete 16 = .ok (.iconst 3, 1) := by decide +kernel
theorem dX12_athlete_17 : decode cX12_athlete 17 = .ok (.invokestatic 62, 3) := by decide +kernel
theorem dX12_athlete_20 : decode cX12_athlete 20 = .ok (.ifCond .eq 16, 3) := by decide +kernel
theorem dX12_athlete_23 : decode cX12_athlete 23 = .ok (.aload_n 0, 1) := by decide +kernel
theorem dX12_athlete_24 : decode cX12_athlete 24 = .ok (.getfield 9, 3) := by decide +kernel
theorem dX12_athlete_27 : decode cX12_athlete 27 = .ok (.iload_n 1, 1) := by decide +kernel
theorem dX12_athlete_28 : decode cX12_athlete 28 = .ok (.iload_n 2, 1) := by decide +kernel
theorem dX12_athlete_29 : decode cX12_athlete 29 = .ok (.invokestatic 70, 3) := by decide +kernel
theorem dX12_athlete_32 : decode cX12_athlete 32 = .ok (.iaload, 1) := by decide +kernel
theorem dX12_athlete_33 : decode cX12_athlete 33 = .ok (.goto 9, 3) := by decide +kernel
theorem dX12_athlete_36 : decode cX12_athlete 36 = .ok (.aload_n 0, 1) := by decide +kernel
theorem dX12_athlete_37 : decode cX12_athlete 37 = .ok (.bipush (-2), 2) := by decide +kernel
theorem dX12_athlete_39 : decode cX12_athlete 39 = .ok (.invokevirtual 56, 3) := by decide +kernel
theorem dX12_athlete_42 : decode cX12_athlete 42 = .ok (.ireturn, 1) := by decide +kernel
theorem dX12_tries_0 : decode cX12_tries 0 = .ok (.aload_n 0, 1) := by decide +kernel
theorem dX12_tries_1 : decode cX12_tries 1 = .ok (.iload_n 1, 1) := by decide +kernel
theorem dX12_tries_2 : decode cX12_tries 2 = .ok (.invokevirtual 136, 3) := by decide +kernel
theorem dX12_tries_5 : decode cX12_tries 5 = .ok (.ifCond .eq 24, 3) := by decide +kernel
theorem dX12_tries_8 : decode cX12_tries 8 = .ok (.aload_n 0, 1) := by decide +kernel
theorem dX12_tries_9 : decode cX12_tries 9 = .ok (.iload_n 2, 1) := by decide +kernel
theorem dX12_tries_10 : decode cX12_tries 10 = .ok (.invokevirtual 139, 3) := by decide +kernel
theorem dX12_tries_13 : decode cX12_tries 13 = .ok (.ifCond .eq 16, 3) := by decide +kernel
theorem dX12_tries_16 : decode cX12_tries 16 = .ok (.aload_n 0, 1) := by decide +kernel
theorem dX12_tries_17 : decode cX12_tries 17 = .ok (.getfield 9, 3) := by decide +kernel
theorem dX12_tries_20 : decode cX12_tries 20 = .ok (.iload_n 1, 1) := by decide +kernel
theorem dX12_tries_21 : decode cX12_tries 21 = .ok (.iload_n 2, 1) := by decide +kernel
theorem dX12_tries_22 : decode cX12_tries 22 = .ok (.invokestatic 91, 3) := by decide +kernel
theorem dX12_tries_25 : decode cX12_tries 25 = .ok (.iaload, 1) := by decide +kernel
theorem dX12_tries_26 : decode cX12_tries 26 = .ok (.goto 8, 3) := by decide +kernel
theorem dX12_tries_29 : decode cX12_tries 29 = .ok (.aload_n 0, 1) := by decide +kernel
theorem dX12_tries_30 : decode cX12_tries 30 = .ok (.iconst (-1), 1) := by decide +kernel
theorem dX12_tries_31 : decode cX12_tries 31 = .ok (.invokevirtual 56, 3) := by decide +kernel
theorem dX12_tries_34 : decode cX12_tries 34 = .ok (.ireturn, 1) := by decide +kernel
theorem dX12_turn_0 : decode cX12_turn 0 = .ok (.aload_n 0, 1) := by decide +kernel
theorem dX12_turn_1 : decode cX12_turn 1 = .ok (.iload_n 1, 1) := by decide +kernel
theorem dX12_turn_2 : decode cX12_turn 2 = .ok (.invokevirtual 139, 3) := by decide +kernel
theorem dX12_turn_5 : decode cX12_turn 5 = .ok (.ifCond .ne 9, 3) := by decide +kernel
theorem dX12_turn_8 : decode cX12_turn 8 = .ok (.aload_n 0, 1) := by decide +kernel
theorem dX12_turn_9 : decode cX12_turn 9 = .ok (.iconst (-1), 1) := by decide +kernel
theorem dX12_turn_10 : decode cX12_turn 10 = .ok (.invokevirtual 56, 3) := by decide +kernel
theorem dX12_turn_13 : decode cX12_turn 13 = .ok (.ireturn, 1) := by decide +kernel
theorem dX12_turn_14 : decode cX12_turn 14 = .ok (.iload_n 2, 1) := by decide +kernel
theorem dX12_turn_15 : decode cX12_turn 15 = .ok (.iconst 0, 1) := by decide +kernel
theorem dX12_turn_16 : decode cX12_turn 16 = .ok (.bipush 6, 2) := by decide +kernel
theorem dX12_turn_18 : decode cX12_turn 18 = .ok (.invokestatic 62, 3) := by decide +kernel
theorem dX12_turn_21 : decode cX12_turn 21 = .ok (.ifCond .ne 10, 3) := by decide +kernel
theorem dX12_turn_24 : decode cX12_turn 24 = .ok (.aload_n 0, 1) := by decide +kernel
theorem dX12_turn_25 : decode cX12_turn 25 = .ok (.bipush (-2), 2) := by decide +kernel
theorem dX12_turn_27 : decode cX12_turn 27 = .ok (.invokevirtual 56, 3) := by decide +kernel
theorem dX12_turn_30 : decode cX12_turn 30 = .ok (.ireturn, 1) := by decide +kernel
theorem dX12_turn_31 : decode cX12_turn 31 = .ok (.iload_n 3, 1) := by decide +kernel
theorem dX12_turn_32 : decode cX12_turn 32 = .ok (.ifCond .ge 10, 3) := by decide +kernel
theorem dX12_turn_35 : decode cX12_turn 35 = .ok (.aload_n 0, 1) := by decide +kernel
theorem dX12_turn_36 : decode cX12_turn 36 = .ok (.bipush (-4), 2) := by decide +kernel
theorem dX12_turn_38 : decode cX12_turn 38 = .ok (.invokevirtual 56, 3) := by decide +kernel
theorem dX12_turn_41 : decode cX12_turn 41 = .ok (.ireturn, 1) := by decide +kernel
theorem dX12_turn_42 : decode cX12_turn 42 = .ok (.iload_n 3, 1) := by decide +kernel
theorem dX12_turn_43 : decode cX12_turn 43 = .ok (.bipush 9, 2) := by decide +kernel
theorem dX12_turn_45 : decode cX12_turn 45 = .ok (.if_icmp .le 10, 3) := by decide +kernel
theorem dX12_turn_48 : decode cX12_turn 48 = .ok (.aload_n 0, 1) := by decide +kernel
theorem dX12_turn_49 : decode cX12_turn 49 = .ok (.bipush (-6), 2) := by decide +kernel
theorem dX12_turn_51 : decode cX12_turn 51 = .ok (.invokevirtual 56, 3) := by decide +kernel
theorem dX12_turn_54 : decode cX12_turn 54 = .ok (.ireturn, 1) := by decide +kernel
theorem dX12_turn_55 : decode cX12_turn 55 = .ok (.bipush 10, 2) := by decide +kernel
theorem dX12_turn_57 : decode cX12_turn 57 = .ok (.aload_n 0, 1) := by decide +kernel
theorem dX12_turn_58 : decode cX12_turn 58 = .ok (.getfield 9, 3) := by decide +kernel
theorem dX12_turn_61 : decode cX12_turn 61 = .ok (.iload_n 1, 1) := by decide +kernel
theorem dX12_turn_62 : decode cX12_turn 62 = .ok (.iconst 0, 1) := by decide +kernel
theorem dX12_turn_63 : decode cX12_turn 63 = .ok (.invokestatic 66, 3) := by decide +kernel
theorem dX12_turn_66 : decode cX12_turn 66 = .ok (.iaload, 1) := by decide +kernel
theorem dX12_turn_67 : decode cX12_turn 67 = .ok (.imul, 1) := by decide +kernel
theorem dX12_turn_68 : decode cX12_turn 68 = .ok (.aload_n 0, 1) := by decide +kernel
theorem dX12_turn_69 : decode cX12_turn 69 = .ok (.getfield 9, 3) := by decide +kernel
theorem dX12_turn_72 : decode cX12_turn 72 = .ok (.iload_n 1, 1) := by decide +kernel
theorem dX12_turn_73 : decode cX12_turn 73 = .ok (.iconst 1, 1) := by decide +kernel
theorem dX12_turn_74 : decode cX12_turn 74 = .ok (.invokestatic 66, 3) := by decide +kernel
theorem dX12_turn_77 : decode cX12_turn 77 = .ok (.iaload, 1) := by decide +kernel
theorem dX12_turn_78 : decode cX12_turn 78 = .ok (.iadd, 1) := by decide +kernel
theorem dX12_turn_79 : decode cX12_turn 79 = .ok (.istore 4, 2) := by decide +kernel
theorem dX12_turn_81 : decode cX12_turn 81 = .ok (.aload_n 0, 1) := by decide +kernel
theorem dX12_turn_82 : decode cX12_turn 82 = .ok (.getfield 9, 3) := by decide +kernel
theorem dX12_turn_85 : decode cX12_turn 85 = .ok (.iload_n 1, 1) := by decide +kernel
theorem dX12_turn_86 : decode cX12_turn 86 = .ok (.iconst 0, 1) := by decide +kernel
theorem dX12_turn_87 : decode cX12_turn 87 = .ok (.invokestatic 66, 3) := by decide +kernel
theorem dX12_turn_90 : decode cX12_turn 90 = .ok (.iload_n 2, 1) := by decide +kernel
theorem dX12_turn_91 : decode cX12_turn 91 = .ok (.iastore, 1) := by decide +kernel
theorem dX12_turn_92 : decode cX12_turn 92 = .ok (.aload_n 0, 1) := by decide +kernel
theorem dX12_turn_93 : decode cX12_turn 93 = .ok (.getfield 9, 3) := by decide +kernel
theorem dX12_turn_96 : decode cX12_turn 96 = .ok (.iload_n 1, 1) := by decide +kernel
theorem dX12_turn_97 : decode cX12_turn 97 = .ok (.iconst 1, 1) := by decide +kernel
theorem dX12_turn_98 : decode cX12_turn 98 = .ok (.invokestatic 66, 3) := by decide +kernel
theorem dX12_turn_101 : decode cX12_turn 101 = .ok (.iload_n 3, 1) := by decide +kernel
theorem dX12_turn_102 : decode cX12_turn 102 = .ok (.iastore, 1) := by decide +kernel
theorem dX12_turn_103 : decode cX12_turn 103 = .ok (.iload 4, 2) := by decide +kernel
theorem dX12_turn_105 : decode cX12_turn 105 = .ok (.ireturn, 1) := by decide +kernel
theorem dX12_swap_0 : decode cX12_swap 0 = .ok (.aload_n 0, 1) := by decide +kernel
theorem dX12_swap_1 : decode cX12_swap 1 = .ok (.iload_n 1, 1) := by decide +kernel
theorem dX12_swap_2 : decode cX12_swap 2 = .ok (.invokevirtual 139, 3) := by decide +kernel
theorem dX12_swap_5 : decode cX12_swap 5 = .ok (.ifCond .eq 16, 3) := by decide +kernel
theorem dX12_swap_8 : decode cX12_swap 8 = .ok (.aload_n 0, 1) := by decide +kernel
theorem dX12_swap_9 : decode cX12_swap 9 = .ok (.iload_n 2, 1) := by decide +kernel
theorem dX12_swap_10 : decode cX12_swap 10 = .ok (.invokevirtual 139, 3) := by decide +kernel
theorem dX12_swap_13 : decode cX12_swap 13 = .ok (.ifCond .eq 8, 3) := by decide +kernel
theorem dX12_swap_16 : decode cX12_swap 16 = .ok (.iload_n 1, 1) := by decide +kernel
theorem dX12_swap_17 : decode cX12_swap 17 = .ok (.iload_n 2, 1) := by decide +kernel
theorem dX12_swap_18 : decode cX12_swap 18 = .ok (.if_icmp .ne 9, 3) := by decide +kernel
theorem dX12_swap_21 : decode cX12_swap 21 = .ok (.aload_n 0, 1) := by decide +kernel
theorem dX12_swap_22 : decode cX12_swap 22 = .ok (.iconst (-1), 1) := by decide +kernel
theorem dX12_swap_23 : decode cX12_swap 23 = .ok (.invokevirtual 56, 3) := by decide +kernel
theorem dX12_swap_26 : decode cX12_swap 26 = .ok (.ireturn, 1) := by decide +kernel
theorem dX12_swap_27 : decode cX12_swap 27 = .ok (.aload_n 0, 1) := by decide +kernel
theorem dX12_swap_28 : decode cX12_swap 28 = .ok (.iload_n 1, 1) := by decide +kernel
theorem dX12_swap_29 : decode cX12_swap 29 = .ok (.iload_n 2, 1) := by decide +kernel
theorem dX12_swap_30 : decode cX12_swap 30 = .ok (.aload_n 0, 1) := by decide +kernel
theorem dX12_swap_31 : decode cX12_swap 31 = .ok (.getfield 9, 3) := by decide +kernel
theorem dX12_swap_34 : decode cX12_swap 34 = .ok (.invokevirtual 142, 3) := by decide +kernel
theorem dX12_swap_37 : decode cX12_swap 37 = .ok (.aload_n 0, 1) := by decide +kernel
theorem dX12_swap_38 : decode cX12_swap 38 = .ok (.getfield 9, 3) := by decide +kernel
theorem dX12_swap_41 : decode cX12_swap 41 = .ok (.iconst 0, 1) := by decide +kernel
theorem dX12_swap_42 : decode cX12_swap 42 = .ok (.iaload, 1) := by decide +kernel
theorem dX12_swap_43 : decode cX12_swap 43 = .ok (.ireturn, 1) := by decide +kernel
theorem dX12_skill_0 : decode cX12_skill 0 = .ok (.aload_n 0, 1) := by decide +kernel
theorem dX12_skill_1 : decode cX12_skill 1 = .ok (.iload_n 1, 1) := by decide +kernel
theorem dX12_skill_2 : decode cX12_skill 2 = .ok (.invokevirtual 136, 3) := by decide +kernel
theorem dX12_skill_5 : decode cX12_skill 5 = .ok (.ifCond .ne 9, 3) := by decide +kernel
theorem dX12_skill_8 : decode cX12_skill 8 = .ok (.aload_n 0, 1) := by decide +kernel
theorem dX12_skill_9 : decode cX12_skill 9 = .ok (.iconst (-1), 1) := by decide +kernel
theorem dX12_skill_10 : decode cX12_skill 10 = .ok (.invokevirtual 56, 3) := by decide +kernel
theorem dX12_skill_13 : decode cX12_skill 13 = .ok (.ireturn, 1) := by decide +kernel
theorem dX12_skill_14 : decode cX12_skill 14 = .ok (.iload_n 2, 1) := by decide +kernel
theorem dX12_skill_15 : decode cX12_skill 15 = .ok (.iconst 0, 1) := by decide +kernel
theorem dX12_skill_16 : decode cX12_skill 16 = .ok (.iconst 3, 1) := by decide +kernel
theorem dX12_skill_17 : decode cX12_skill 17 = .ok (.invokestatic 62, 3) := by decide +kernel
theorem dX12_skill_20 : decode cX12_skill 20 = .ok (.ifCond .ne 10, 3) := by decide +kernel
theorem dX12_skill_23 : decode cX12_skill 23 = .ok (.aload_n 0, 1) := by decide +kernel
theorem dX12_skill_24 : decode cX12_skill 24 = .ok (.bipush (-2), 2) := by decide +kernel
theorem dX12_skill_26 : decode cX12_skill 26 = .ok (.invokevirtual 56, 3) := by decide +kernel
theorem dX12_skill_29 : decode cX12_skill 29 = .ok (.ireturn, 1) := by decide +kernel
theorem dX12_skill_30 : decode cX12_skill 30 = .ok (.iload_n 3, 1) := by decide +kernel
theorem dX12_skill_31 : decode cX12_skill 31 = .ok (.ifCond .ge 10, 3) := by decide +kernel
theorem dX12_skill_34 : decode cX12_skill 34 = .ok (.aload_n 0, 1) := by decide +kernel
theorem dX12_skill_35 : decode cX12_skill 35 = .ok (.bipush (-4), 2) := by decide +kernel
theorem dX12_skill_37 : decode cX12_skill 37 = .ok (.invokevirtual 56, 3) := by decide +kernel
theorem dX12_skill_40 : decode cX12_skill 40 = .ok (.ireturn, 1) := by decide +kernel
theorem dX12_skill_41 : decode cX12_skill 41 = .ok (.iload_n 3, 1) := by decide +kernel
theorem dX12_skill_42 : decode cX12_skill 42 = .ok (.iload_n 2, 1) := by decide +kernel
theorem dX12_skill_43 : decode cX12_skill 43 = .ok (.iconst 3, 1) := by decide +kernel
theorem dX12_skill_44 : decode cX12_skill 44 = .ok (.if_icmp .ne 8, 3) := by decide +kernel
theorem dX12_skill_47 : decode cX12_skill 47 = .ok (.bipush 99, 2) := by decide +kernel
theorem dX12_skill_49 : decode cX12_skill 49 = .ok (.goto 5, 3) := by decide +kernel
theorem dX12_skill_52 : decode cX12_skill 52 = .ok (.bipush 9, 2) := by decide +kernel
theorem dX12_skill_54 : decode cX12_skill 54 = .ok (.if_icmp .le 10, 3) := by decide +kernel
theorem dX12_skill_57 : decode cX12_skill 57 = .ok (.aload_n 0, 1) := by decide +kernel
theorem dX12_skill_58 : decode cX12_skill 58 = .ok (.bipush (-6), 2) := by decide +kernel
theorem dX12_skill_60 : decode cX12_skill 60 = .ok (.invokevirtual 56, 3) := by decide +kernel
theorem dX12_skill_63 : decode cX12_skill 63 = .ok (.ireturn, 1) := by decide +kernel
theorem dX12_skill_64 : decode cX12_skill 64 = .ok (.aload_n 0, 1) := by decide +kernel
theorem dX12_skill_65 : decode cX12_skill 65 = .ok (.getfield 9, 3) := by decide +kernel
theorem dX12_skill_68 : decode cX12_skill 68 = .ok (.iload_n 1, 1) := by decide +kernel
theorem dX12_skill_69 : decode cX12_skill 69 = .ok (.iload_n 2, 1) := by decide +kernel
theorem dX12_skill_70 : decode cX12_skill 70 = .ok (.invokestatic 70, 3) := by decide +kernel
theorem dX12_skill_73 : decode cX12_skill 73 = .ok (.iaload, 1) := by decide +kernel
theorem dX12_skill_74 : decode cX12_skill 74 = .ok (.istore 4, 2) := by decide +kernel
theorem dX12_skill_76 : decode cX12_skill 76 = .ok (.aload_n 0, 1) := by decide +kernel
theorem dX12_skill_77 : decode cX12_skill 77 = .ok (.getfield 9, 3) := by decide +kernel
theorem dX12_skill_80 : decode cX12_skill 80 = .ok (.iload_n 1, 1) := by decide +kernel
theorem dX12_skill_81 : decode cX12_skill 81 = .ok (.iload_n 2, 1) := by decide +kernel
theorem dX12_skill_82 : decode cX12_skill 82 = .ok (.invokestatic 70, 3) := by decide +kernel
theorem dX12_skill_85 : decode cX12_skill 85 = .ok (.iload_n 3, 1) := by decide +kernel
theorem dX12_skill_86 : decode cX12_skill 86 = .ok (.iastore, 1) := by decide +kernel
theorem dX12_skill_87 : decode cX12_skill 87 = .ok (.iload 4, 2) := by decide +kernel
theorem dX12_skill_89 : decode cX12_skill 89 = .ok (.ireturn, 1) := by decide +kernel
theorem dX12_tryHard_0 : decode cX12_tryHard 0 = .ok (.aload_n 0, 1) := by decide +kernel
theorem dX12_tryHard_1 : decode cX12_tryHard 1 = .ok (.iload_n 1, 1) := by decide +kernel
theorem dX12_tryHard_2 : decode cX12_tryHard 2 = .ok (.invokevirtual 136, 3) := by decide +kernel
theorem dX12_tryHard_5 : decode cX12_tryHard 5 = .ok (.ifCond .eq 11, 3) := by decide +kernel
theorem dX12_tryHard_8 : decode cX12_tryHard 8 = .ok (.aload_n 0, 1) := by decide +kernel
theorem dX12_tryHard_9 : decode cX12_tryHard 9 = .ok (.iload_n 2, 1) := by decide +kernel
theorem dX12_tryHard_10 : decode cX12_tryHard 10 = .ok (.invokevirtual 139, 3) := by decide +kernel
theorem dX12_tryHard_13 : decode cX12_tryHard 13 = .ok (.ifCond .ne 9, 3) := by decide +kernel
theorem dX12_tryHard_16 : decode cX12_tryHard 16 = .ok (.aload_n 0, 1) := by decide +kernel
theorem dX12_tryHard_17 : decode cX12_tryHard 17 = .ok (.iconst (-1), 1) := by decide +kernel
theorem dX12_tryHard_18 : decode cX12_tryHard 18 = .ok (.invokevirtual 56, 3) := by decide +kernel
theorem dX12_tryHard_21 : decode cX12_tryHard 21 = .ok (.ireturn, 1) := by decide +kernel
theorem dX12_tryHard_22 : decode cX12_tryHard 22 = .ok (.iload_n 3, 1) := by decide +kernel
theorem dX12_tryHard_23 : decode cX12_tryHard 23 = .ok (.ifCond .ge 10, 3) := by decide +kernel
theorem dX12_tryHard_26 : decode cX12_tryHard 26 = .ok (.aload_n 0, 1) := by decide +kernel
theorem dX12_tryHard_27 : decode cX12_tryHard 27 = .ok (.bipush (-4), 2) := by decide +kernel
theorem dX12_tryHard_29 : decode cX12_tryHard 29 = .ok (.invokevirtual 56, 3) := by decide +kernel
theorem dX12_tryHard_32 : decode cX12_tryHard 32 = .ok (.ireturn, 1) := by decide +kernel
theorem dX12_tryHard_33 : decode cX12_tryHard 33 = .ok (.iload_n 3, 1) := by decide +kernel
theorem dX12_tryHard_34 : decode cX12_tryHard 34 = .ok (.iconst 4, 1) := by decide +kernel
theorem dX12_tryHard_35 : decode cX12_tryHard 35 = .ok (.if_icmp .lt 10, 3) := by decide +kernel
theorem dX12_tryHard_38 : decode cX12_tryHard 38 = .ok (.aload_n 0, 1) := by decide +kernel
theorem dX12_tryHard_39 : decode cX12_tryHard 39 = .ok (.bipush (-6), 2) := by decide +kernel
theorem dX12_tryHard_41 : decode cX12_tryHard 41 = .ok (.invokevirtual 56, 3) := by decide +kernel
theorem dX12_tryHard_44 : decode cX12_tryHard 44 = .ok (.ireturn, 1) := by decide +kernel
theorem dX12_tryHard_45 : decode cX12_tryHard 45 = .ok (.aload_n 0, 1) := by decide +kernel
theorem dX12_tryHard_46 : decode cX12_tryHard 46 = .ok (.getfield 9, 3) := by decide +kernel
theorem dX12_tryHard_49 : decode cX12_tryHard 49 = .ok (.iload_n 1, 1) := by decide +kernel
theorem dX12_tryHard_50 : decode cX12_tryHard 50 = .ok (.iload_n 2, 1) := by decide +kernel
theorem dX12_tryHard_51 : decode cX12_tryHard 51 = .ok (.invokestatic 91, 3) := by decide +kernel
theorem dX12_tryHard_54 : decode cX12_tryHard 54 = .ok (.iaload, 1) := by decide +kernel
theorem dX12_tryHard_55 : decode cX12_tryHard 55 = .ok (.istore 4, 2) := by decide +kernel
theorem dX12_tryHard_57 : decode cX12_tryHard 57 = .ok (.aload_n 0, 1) := by decide +kernel
theorem dX12_tryHard_58 : decode cX12_tryHard 58 = .ok (.getfield 9, 3) := by decide +kernel
theorem dX12_tryHard_61 : decode cX12_tryHard 61 = .ok (.iload_n 1, 1) := by decide +kernel
theorem dX12_tryHard_62 : decode cX12_tryHard 62 = .ok (.iload_n 2, 1) := by decide +kernel
theorem dX12_tryHard_63 : decode cX12_tryHard 63 = .ok (.invokestatic 91, 3) := by decide +kernel
theorem dX12_tryHard_66 : decode cX12_tryHard 66 = .ok (.iload_n 3, 1) := by decide +kernel
theorem dX12_tryHard_67 : decode cX12_tryHard 67 = .ok (.iastore, 1) := by decide +kernel
theorem dX12_tryHard_68 : decode cX12_tryHard 68 = .ok (.iload 4, 2) := by decide +kernel
theorem dX12_tryHard_70 : decode cX12_tryHard 70 = .ok (.ireturn, 1) := by decide +kernel
theorem dX12_by_0 : decode cX12_by 0 = .ok (.aload_n 0, 1) := by decide +kernel
theorem dX12_by_1 : decode cX12_by 1 = .ok (.iload_n 1, 1) := by decide +kernel
theorem dX12_by_2 : decode cX12_by 2 = .ok (.invokevirtual 136, 3) := by decide +kernel
theorem dX12_by_5 : decode cX12_by 5 = .ok (.ifCond .eq 11, 3) := by decide +kernel
theorem dX12_by_8 : decode cX12_by 8 = .ok (.aload_n 0, 1) := by decide +kernel
theorem dX12_by_9 : decode cX12_by 9 = .ok (.iload_n 2, 1) := by decide +kernel
theorem dX12_by_10 : decode cX12_by 10 = .ok (.invokevirtual 139, 3) := by decide +kernel
theorem dX12_by_13 : decode cX12_by 13 = .ok (.ifCond .ne 9, 3) := by decide +kernel
theorem dX12_by_16 : decode cX12_by 16 = .ok (.aload_n 0, 1) := by decide +kernel
theorem dX12_by_17 : decode cX12_by 17 = .ok (.iconst (-1), 1) := by decide +kernel
theorem dX12_by_18 : decode cX12_by 18 = .ok (.invokevirtual 56, 3) := by decide +kernel
theorem dX12_by_21 : decode cX12_by 21 = .ok (.ireturn, 1) := by decide +kernel
theorem dX12_by_22 : decode cX12_by 22 = .ok (.iload_n 3, 1) := by decide +kernel
theorem dX12_by_23 : decode cX12_by 23 = .ok (.iconst 0, 1) := by decide +kernel
theorem dX12_by_24 : decode cX12_by 24 = .ok (.iconst 2, 1) := by decide +kernel
theorem dX12_by_25 : decode cX12_by 25 = .ok (.invokestatic 62, 3) := by decide +kernel
theorem dX12_by_28 : decode cX12_by 28 = .ok (.ifCond .ne 10, 3) := by decide +kernel
theorem dX12_by_31 : decode cX12_by 31 = .ok (.aload_n 0, 1) := by decide +kernel
theorem dX12_by_32 : decode cX12_by 32 = .ok (.bipush (-2), 2) := by decide +kernel
theorem dX12_by_34 : decode cX12_by 34 = .ok (.invokevirtual 56, 3) := by decide +kernel
theorem dX12_by_37 : decode cX12_by 37 = .ok (.ireturn, 1) := by decide +kernel
theorem dX12_by_38 : decode cX12_by 38 = .ok (.aload_n 0, 1) := by decide +kernel
theorem dX12_by_39 : decode cX12_by 39 = .ok (.aload_n 0, 1) := by decide +kernel
theorem dX12_by_40 : decode cX12_by 40 = .ok (.getfield 9, 3) := by decide +kernel
theorem dX12_by_43 : decode cX12_by 43 = .ok (.iload_n 1, 1) := by decide +kernel
theorem dX12_by_44 : decode cX12_by 44 = .ok (.invokevirtual 156, 3) := by decide +kernel
theorem dX12_by_47 : decode cX12_by 47 = .ok (.istore 4, 2) := by decide +kernel
theorem dX12_by_49 : decode cX12_by 49 = .ok (.iload_n 3, 1) := by decide +kernel
theorem dX12_by_50 : decode cX12_by 50 = .ok (.ifCond .ne 12, 3) := by decide +kernel
theorem dX12_by_53 : decode cX12_by 53 = .ok (.aload_n 0, 1) := by decide +kernel
theorem dX12_by_54 : decode cX12_by 54 = .ok (.getfield 31, 3) := by decide +kernel
theorem dX12_by_57 : decode cX12_by 57 = .ok (.iload_n 2, 1) := by decide +kernel
theorem dX12_by_58 : decode cX12_by 58 = .ok (.iaload, 1) := by decide +kernel
theorem dX12_by_59 : decode cX12_by 59 = .ok (.goto 23, 3) := by decide +kernel
theorem dX12_by_62 : decode cX12_by 62 = .ok (.iload_n 3, 1) := by decide +kernel
theorem dX12_by_63 : decode cX12_by 63 = .ok (.iconst 1, 1) := by decide +kernel
theorem dX12_by_64 : decode cX12_by 64 = .ok (.if_icmp .ne 12, 3) := by decide +kernel
theorem dX12_by_67 : decode cX12_by 67 = .ok (.aload_n 0, 1) := by decide +kernel
theorem dX12_by_68 : decode cX12_by 68 = .ok (.getfield 34, 3) := by decide +kernel
theorem dX12_by_71 : decode cX12_by 71 = .ok (.iload_n 2, 1) := by decide +kernel
theorem dX12_by_72 : decode cX12_by 72 = .ok (.iaload, 1) := by decide +kernel
theorem dX12_by_73 : decode cX12_by 73 = .ok (.goto 9, 3) := by decide +kernel
theorem dX12_by_76 : decode cX12_by 76 = .ok (.aload_n 0, 1) := by decide +kernel
theorem dX12_by_77 : decode cX12_by 77 = .ok (.getfield 37, 3) := by decide +kernel
theorem dX12_by_80 : decode cX12_by 80 = .ok (.iload_n 2, 1) := by decide +kernel
theorem dX12_by_81 : decode cX12_by 81 = .ok (.iaload, 1) := by decide +kernel
theorem dX12_by_82 : decode cX12_by 82 = .ok (.ireturn, 1) := by decide +kernel
theorem dX12_finish_0 : decode cX12_finish 0 = .ok (.aload_n 0, 1) := by decide +kernel
theorem dX12_finish_1 : decode cX12_finish 1 = .ok (.iload_n 1, 1) := by decide +kernel
theorem dX12_finish_2 : decode cX12_finish 2 = .ok (.invokevirtual 136, 3) := by decide +kernel
theorem dX12_finish_5 : decode cX12_finish 5 = .ok (.ifCond .ne 9, 3) := by decide +kernel
theorem dX12_finish_8 : decode cX12_finish 8 = .ok (.aload_n 0, 1) := by decide +kernel
theorem dX12_finish_9 : decode cX12_finish 9 = .ok (.iconst (-1), 1) := by decide +kernel
theorem dX12_finish_10 : decode cX12_finish 10 = .ok (.invokevirtual 56, 3) := by decide +kernel
theorem dX12_finish_13 : decode cX12_finish 13 = .ok (.ireturn, 1) := by decide +kernel
theorem dX12_finish_14 : decode cX12_finish 14 = .ok (.iload_n 2, 1) := by decide +kernel
theorem dX12_finish_15 : decode cX12_finish 15 = .ok (.iconst 0, 1) := by decide +kernel
theorem dX12_finish_16 : decode cX12_finish 16 = .ok (.iconst 2, 1) := by decide +kernel
theorem dX12_finish_17 : decode cX12_finish 17 = .ok (.invokestatic 62, 3) := by decide +kernel
theorem dX12_finish_20 : decode cX12_finish 20 = .ok (.ifCond .ne 10, 3) := by decide +kernel
theorem dX12_finish_23 : decode cX12_finish 23 = .ok (.aload_n 0, 1) := by decide +kernel
theorem dX12_finish_24 : decode cX12_finish 24 = .ok (.bipush (-2), 2) := by decide +kernel
theorem dX12_finish_26 : decode cX12_finish 26 = .ok (.invokevirtual 56, 3) := by decide +kernel
theorem dX12_finish_29 : decode cX12_finish 29 = .ok (.ireturn, 1) := by decide +kernel
theorem dX12_finish_30 : decode cX12_finish 30 = .ok (.aload_n 0, 1) := by decide +kernel
theorem dX12_finish_31 : decode cX12_finish 31 = .ok (.aload_n 0, 1) := by decide +kernel
theorem dX12_finish_32 : decode cX12_finish 32 = .ok (.getfield 9, 3) := by decide +kernel
theorem dX12_finish_35 : decode cX12_finish 35 = .ok (.iload_n 1, 1) := by decide +kernel
theorem dX12_finish_36 : decode cX12_finish 36 = .ok (.invokevirtual 156, 3) := by decide +kernel
theorem dX12_finish_39 : decode cX12_finish 39 = .ok (.istore_n 3, 1) := by decide +kernel
theorem dX12_finish_40 : decode cX12_finish 40 = .ok (.iload_n 2, 1) := by decide +kernel
theorem dX12_finish_41 : decode cX12_finish 41 = .ok (.ifCond .ne 5, 3) := by decide +kernel
theorem dX12_finish_44 : decode cX12_finish 44 = .ok (.iload_n 3, 1) := by decide +kernel
theorem dX12_finish_45 : decode cX12_finish 45 = .ok (.ireturn, 1) := by decide +kernel
theorem dX12_finish_46 : decode cX12_finish 46 = .ok (.iload_n 2, 1) := by decide +kernel
theorem dX12_finish_47 : decode cX12_finish 47 = .ok (.iconst 1, 1) := by decide +kernel
theorem dX12_finish_48 : decode cX12_finish 48 = .ok (.if_icmp .ne 39, 3) := by decide +kernel
theorem dX12_finish_51 : decode cX12_finish 51 = .ok (.iconst 0, 1) := by decide +kernel
theorem dX12_finish_52 : decode cX12_finish 52 = .ok (.istore 4, 2) := by decide +kernel
theorem dX12_finish_54 : decode cX12_finish 54 = .ok (.iload 4, 2) := by decide +kernel
theorem dX12_finish_56 : decode cX12_finish 56 = .ok (.aload_n 0, 1) := by decide +kernel
theorem dX12_finish_57 : decode cX12_finish 57 = .ok (.getfield 9, 3) := by decide +kernel
theorem dX12_finish_60 : decode cX12_finish 60 = .ok (.iconst 0, 1) := by decide +kernel
theorem dX12_finish_61 : decode cX12_finish 61 = .ok (.iaload, 1) := by decide +kernel
theorem dX12_finish_62 : decode cX12_finish 62 = .ok (.if_icmp .ge 22, 3) := by decide +kernel
theorem dX12_finish_65 : decode cX12_finish 65 = .ok (.aload_n 0, 1) := by decide +kernel
theorem dX12_finish_66 : decode cX12_finish 66 = .ok (.getfield 34, 3) := by decide +kernel
theorem dX12_finish_69 : decode cX12_finish 69 = .ok (.iload 4, 2) := by decide +kernel
theorem dX12_finish_71 : decode cX12_finish 71 = .ok (.iaload, 1) := by decide +kernel
theorem dX12_finish_72 : decode cX12_finish 72 = .ok (.ifCond .ne 6, 3) := by decide +kernel
theorem dX12_finish_75 : decode cX12_finish 75 = .ok (.iload 4, 2) := by decide +kernel
theorem dX12_finish_77 : decode cX12_finish 77 = .ok (.ireturn, 1) := by decide +kernel
theorem dX12_finish_78 : decode cX12_finish 78 = .ok (.iinc 4 1, 3) := by decide +kernel
theorem dX12_finish_81 : decode cX12_finish 81 = .ok (.goto (-27), 3) := by decide +kernel
theorem dX12_finish_84 : decode cX12_finish 84 = .ok (.bipush (-9), 2) := by decide +kernel
theorem dX12_finish_86 : decode cX12_finish 86 = .ok (.ireturn, 1) := by decide +kernel
theorem dX12_finish_87 : decode cX12_finish 87 = .ok (.iconst 1, 1) := by decide +kernel
theorem dX12_finish_88 : decode cX12_finish 88 = .ok (.istore 4, 2) := by decide +kernel
theorem dX12_finish_90 : decode cX12_finish 90 = .ok (.iconst 0, 1) := by decide +kernel
theorem dX12_finish_91 : decode cX12_finish 91 = .ok (.istore 5, 2) := by decide +kernel
theorem dX12_finish_93 : decode cX12_finish 93 = .ok (.iload 5, 2) := by decide +kernel
theorem dX12_finish_95 : decode cX12_finish 95 = .ok (.aload_n 0, 1) := by decide +kernel
theorem dX12_finish_96 : decode cX12_finish 96 = .ok (.getfield 9, 3) := by decide +kernel
theorem dX12_finish_99 : decode cX12_finish 99 = .ok (.iconst 1, 1) := by decide +kernel
theorem dX12_finish_100 : decode cX12_finish 100 = .ok (.iaload, 1) := by decide +kernel
theorem dX12_finish_101 : decode cX12_finish 101 = .ok (.if_icmp .ge 33, 3) := by decide +kernel
theorem dX12_finish_104 : decode cX12_finish 104 = .ok (.iload 4, 2) := by decide +kernel
theorem dX12_finish_106 : decode cX12_finish 106 = .ok (.aload_n 0, 1) := by decide +kernel
theorem dX12_finish_107 : decode cX12_finish 107 = .ok (.aload_n 0, 1) := by decide +kernel
theorem dX12_finish_108 : decode cX12_finish 108 = .ok (.getfield 9, 3) := by decide +kernel
theorem dX12_finish_111 : decode cX12_finish 111 = .ok (.iload 5, 2) := by decide +kernel
theorem dX12_finish_113 : decode cX12_finish 113 = .ok (.invokevirtual 156, 3) := by decide +kernel
theorem dX12_finish_116 : decode cX12_finish 116 = .ok (.iload_n 3, 1) := by decide +kernel
theorem dX12_finish_117 : decode cX12_finish 117 = .ok (.if_icmp .ge 7, 3) := by decide +kernel
theorem dX12_finish_120 : decode cX12_finish 120 = .ok (.iconst 1, 1) := by decide +kernel
theorem dX12_finish_121 : decode cX12_finish 121 = .ok (.goto 4, 3) := by decide +kernel
theorem dX12_finish_124 : decode cX12_finish 124 = .ok (.iconst 0, 1) := by decide +kernel
theorem dX12_finish_125 : decode cX12_finish 125 = .ok (.iadd, 1) := by decide +kernel
theorem dX12_finish_126 : decode cX12_finish 126 = .ok (.istore 4, 2) := by decide +kernel
theorem dX12_finish_128 : decode cX12_finish 128 = .ok (.iinc 5 1, 3) := by decide +kernel
theorem dX12_finish_131 : decode cX12_finish 131 = .ok (.goto (-38), 3) := by decide +kernel
theorem dX12_finish_134 : decode cX12_finish 134 = .ok (.iload 4, 2) := by decide +kernel
theorem dX12_finish_136 : decode cX12_finish 136 = .ok (.ireturn, 1) := by decide +kernel
theorem dX12_at_0 : decode cX12_at 0 = .ok (.aload_n 0, 1) := by decide +kernel
theorem dX12_at_1 : decode cX12_at 1 = .ok (.iload_n 1, 1) := by decide +kernel
theorem dX12_at_2 : decode cX12_at 2 = .ok (.invokevirtual 136, 3) := by decide +kernel
theorem dX12_at_5 : decode cX12_at 5 = .ok (.ifCond .ne 9, 3) := by decide +kernel
theorem dX12_at_8 : decode cX12_at 8 = .ok (.aload_n 0, 1) := by decide +kernel
theorem dX12_at_9 : decode cX12_at 9 = .ok (.iconst (-1), 1) := by decide +kernel
theorem dX12_at_10 : decode cX12_at 10 = .ok (.invokevirtual 56, 3) := by decide +kernel
theorem dX12_at_13 : decode cX12_at 13 = .ok (.ireturn, 1) := by decide +kernel
theorem dX12_at_14 : decode cX12_at 14 = .ok (.iload_n 2, 1) := by decide +kernel
theorem dX12_at_15 : decode cX12_at 15 = .ok (.ifCond .ge 10, 3) := by decide +kernel
theorem dX12_at_18 : decode cX12_at 18 = .ok (.aload_n 0, 1) := by decide +kernel
theorem dX12_at_19 : decode cX12_at 19 = .ok (.bipush (-4), 2) := by decide +kernel
theorem dX12_at_21 : decode cX12_at 21 = .ok (.invokevirtual 56, 3) := by decide +kernel
theorem dX12_at_24 : decode cX12_at 24 = .ok (.ireturn, 1) := by decide +kernel
theorem dX12_at_25 : decode cX12_at 25 = .ok (.iload_n 2, 1) := by decide +kernel
theorem dX12_at_26 : decode cX12_at 26 = .ok (.sipush 999, 3) := by decide +kernel
theorem dX12_at_29 : decode cX12_at 29 = .ok (.if_icmp .le 10, 3) := by decide +kernel
theorem dX12_at_32 : decode cX12_at 32 = .ok (.aload_n 0, 1) := by decide +kernel
theorem dX12_at_33 : decode cX12_at 33 = .ok (.bipush (-6), 2) := by decide +kernel
theorem dX12_at_35 : decode cX12_at 35 = .ok (.invokevirtual 56, 3) := by decide +kernel
theorem dX12_at_38 : decode cX12_at 38 = .ok (.ireturn, 1) := by decide +kernel
theorem dX12_at_39 : decode cX12_at 39 = .ok (.aload_n 0, 1) := by decide +kernel
theorem dX12_at_40 : decode cX12_at 40 = .ok (.aload_n 0, 1) := by decide +kernel
theorem dX12_at_41 : decode cX12_at 41 = .ok (.getfield 9, 3) := by decide +kernel
theorem dX12_at_44 : decode cX12_at 44 = .ok (.iload_n 1, 1) := by decide +kernel
theorem dX12_at_45 : decode cX12_at 45 = .ok (.invokevirtual 156, 3) := by decide +kernel
theorem dX12_at_48 : decode cX12_at 48 = .ok (.istore_n 3, 1) := by decide +kernel
theorem dX12_at_49 : decode cX12_at 49 = .ok (.iconst 0, 1) := by decide +kernel
theorem dX12_at_50 : decode cX12_at 50 = .ok (.istore 4, 2) := by decide +kernel
theorem dX12_at_52 : decode cX12_at 52 = .ok (.iload 4, 2) := by decide +kernel
theorem dX12_at_54 : decode cX12_at 54 = .ok (.aload_n 0, 1) := by decide +kernel
theorem dX12_at_55 : decode cX12_at 55 = .ok (.getfield 9, 3) := by decide +kernel
theorem dX12_at_58 : decode cX12_at 58 = .ok (.iconst 0, 1) := by decide +kernel
theorem dX12_at_59 : decode cX12_at 59 = .ok (.iaload, 1) := by decide +kernel
theorem dX12_at_60 : decode cX12_at 60 = .ok (.if_icmp .ge 23, 3) := by decide +kernel
theorem dX12_at_63 : decode cX12_at 63 = .ok (.iload_n 2, 1) := by decide +kernel
theorem dX12_at_64 : decode cX12_at 64 = .ok (.aload_n 0, 1) := by decide +kernel
theorem dX12_at_65 : decode cX12_at 65 = .ok (.getfield 37, 3) := by decide +kernel
theorem dX12_at_68 : decode cX12_at 68 = .ok (.iload 4, 2) := by decide +kernel
theorem dX12_at_70 : decode cX12_at 70 = .ok (.iaload, 1) := by decide +kernel
theorem dX12_at_71 : decode cX12_at 71 = .ok (.if_icmp .ge 6, 3) := by decide +kernel
theorem dX12_at_74 : decode cX12_at 74 = .ok (.iload 4, 2) := by decide +kernel
theorem dX12_at_76 : decode cX12_at 76 = .ok (.ireturn, 1) := by decide +kernel
theorem dX12_at_77 : decode cX12_at 77 = .ok (.iinc 4 1, 3) := by decide +kernel
theorem dX12_at_80 : decode cX12_at 80 = .ok (.goto (-28), 3) := by decide +kernel
theorem dX12_at_83 : decode cX12_at 83 = .ok (.aload_n 0, 1) := by decide +kernel
theorem dX12_at_84 : decode cX12_at 84 = .ok (.getfield 9, 3) := by decide +kernel
theorem dX12_at_87 : decode cX12_at 87 = .ok (.iconst 0, 1) := by decide +kernel
theorem dX12_at_88 : decode cX12_at 88 = .ok (.iaload, 1) := by decide +kernel
theorem dX12_at_89 : decode cX12_at 89 = .ok (.ireturn, 1) := by decide +kernel
theorem dX12_overtakes_0 : decode cX12_overtakes 0 = .ok (.aload_n 0, 1) := by decide +kernel
theorem dX12_overtakes_1 : decode cX12_overtakes 1 = .ok (.iload_n 1, 1) := by decide +kernel
theorem dX12_overtakes_2 : decode cX12_overtakes 2 = .ok (.invokevirtual 136, 3) := by decide +kernel
theorem dX12_overtakes_5 : decode cX12_overtakes 5 = .ok (.ifCond .eq 16, 3) := by decide +kernel
theorem dX12_overtakes_8 : decode cX12_overtakes 8 = .ok (.aload_n 0, 1) := by decide +kernel
theorem dX12_overtakes_9 : decode cX12_overtakes 9 = .ok (.iload_n 2, 1) := by decide +kernel
theorem dX12_overtakes_10 : decode cX12_overtakes 10 = .ok (.invokevirtual 136, 3) := by decide +kernel
theorem dX12_overtakes_13 : decode cX12_overtakes 13 = .ok (.ifCond .eq 8, 3) := by decide +kernel
theorem dX12_overtakes_16 : decode cX12_overtakes 16 = .ok (.iload_n 1, 1) := by decide +kernel
theorem dX12_overtakes_17 : decode cX12_overtakes 17 = .ok (.iload_n 2, 1) := by decide +kernel
theorem dX12_overtakes_18 : decode cX12_overtakes 18 = .ok (.if_icmp .ne 9, 3) := by decide +kernel
theorem dX12_overtakes_21 : decode cX12_overtakes 21 = .ok (.aload_n 0, 1) := by decide +kernel
theorem dX12_overtakes_22 : decode cX12_overtakes 22 = .ok (.iconst (-1), 1) := by decide +kernel
theorem dX12_overtakes_23 : decode cX12_overtakes 23 = .ok (.invokevirtual 56, 3) := by decide +kernel
theorem dX12_overtakes_26 : decode cX12_overtakes 26 = .ok (.ireturn, 1) := by decide +kernel
theorem dX12_overtakes_27 : decode cX12_overtakes 27 = .ok (.iload_n 3, 1) := by decide +kernel
theorem dX12_overtakes_28 : decode cX12_overtakes 28 = .ok (.iconst 0, 1) := by decide +kernel
theorem dX12_overtakes_29 : decode cX12_overtakes 29 = .ok (.iconst 1, 1) := by decide +kernel
theorem dX12_overtakes_30 : decode cX12_overtakes 30 = .ok (.invokestatic 62, 3) := by decide +kernel
theorem dX12_overtakes_33 : decode cX12_overtakes 33 = .ok (.ifCond .ne 10, 3) := by decide +kernel
theorem dX12_overtakes_36 : decode cX12_overtakes 36 = .ok (.aload_n 0, 1) := by decide +kernel
theorem dX12_overtakes_37 : decode cX12_overtakes 37 = .ok (.bipush (-2), 2) := by decide +kernel
theorem dX12_overtakes_39 : decode cX12_overtakes 39 = .ok (.invokevirtual 56, 3) := by decide +kernel
theorem dX12_overtakes_42 : decode cX12_overtakes 42 = .ok (.ireturn, 1) := by decide +kernel
theorem dX12_overtakes_43 : decode cX12_overtakes 43 = .ok (.aload_n 0, 1) := by decide +kernel
theorem dX12_overtakes_44 : decode cX12_overtakes 44 = .ok (.aload_n 0, 1) := by decide +kernel
theorem dX12_overtakes_45 : decode cX12_overtakes 45 = .ok (.getfield 9, 3) := by decide +kernel
theorem dX12_overtakes_48 : decode cX12_overtakes 48 = .ok (.iload_n 1, 1) := by decide +kernel
theorem dX12_overtakes_49 : decode cX12_overtakes 49 = .ok (.invokevirtual 156, 3) := by decide +kernel
theorem dX12_overtakes_52 : decode cX12_overtakes 52 = .ok (.istore 4, 2) := by decide +kernel
theorem dX12_overtakes_54 : decode cX12_overtakes 54 = .ok (.iconst 0, 1) := by decide +kernel
theorem dX12_overtakes_55 : decode cX12_overtakes 55 = .ok (.istore 5, 2) := by decide +kernel
theorem dX12_overtakes_57 : decode cX12_overtakes 57 = .ok (.iload 5, 2) := by decide +kernel
theorem dX12_overtakes_59 : decode cX12_overtakes 59 = .ok (.aload_n 0, 1) := by decide +kernel
theorem dX12_overtakes_60 : decode cX12_overtakes 60 = .ok (.getfield 9, 3) := by decide +kernel
theorem dX12_overtakes_63 : decode cX12_overtakes 63 = .ok (.iconst 0, 1) := by decide +kernel
theorem dX12_overtakes_64 : decode cX12_overtakes 64 = .ok (.iaload, 1) := by decide +kernel
theorem dX12_overtakes_65 : decode cX12_overtakes 65 = .ok (.if_icmp .ge 23, 3) := by decide +kernel
theorem dX12_overtakes_68 : decode cX12_overtakes 68 = .ok (.aload_n 0, 1) := by decide +kernel
theorem dX12_overtakes_69 : decode cX12_overtakes 69 = .ok (.getfield 43, 3) := by decide +kernel
theorem dX12_overtakes_72 : decode cX12_overtakes 72 = .ok (.iload 5, 2) := by decide +kernel
theorem dX12_overtakes_74 : decode cX12_overtakes 74 = .ok (.aload_n 0, 1) := by decide +kernel
theorem dX12_overtakes_75 : decode cX12_overtakes 75 = .ok (.getfield 37, 3) := by decide +kernel
theorem dX12_overtakes_78 : decode cX12_overtakes 78 = .ok (.iload 5, 2) := by decide +kernel
theorem dX12_overtakes_80 : decode cX12_overtakes 80 = .ok (.iaload, 1) := by decide +kernel
theorem dX12_overtakes_81 : decode cX12_overtakes 81 = .ok (.iastore, 1) := by decide +kernel
theorem dX12_overtakes_82 : decode cX12_overtakes 82 = .ok (.iinc 5 1, 3) := by decide +kernel
theorem dX12_overtakes_85 : decode cX12_overtakes 85 = .ok (.goto (-28), 3) := by decide +kernel
theorem dX12_overtakes_88 : decode cX12_overtakes 88 = .ok (.aload_n 0, 1) := by decide +kernel
theorem dX12_overtakes_89 : decode cX12_overtakes 89 = .ok (.aload_n 0, 1) := by decide +kernel
theorem dX12_overtakes_90 : decode cX12_overtakes 90 = .ok (.getfield 9, 3) := by decide +kernel
theorem dX12_overtakes_93 : decode cX12_overtakes 93 = .ok (.iload_n 2, 1) := by decide +kernel
theorem dX12_overtakes_94 : decode cX12_overtakes 94 = .ok (.invokevirtual 156, 3) := by decide +kernel
theorem dX12_overtakes_97 : decode cX12_overtakes 97 = .ok (.istore 4, 2) := by decide +kernel
theorem dX12_overtakes_99 : decode cX12_overtakes 99 = .ok (.iconst 0, 1) := by decide +kernel
theorem dX12_overtakes_100 : decode cX12_overtakes 100 = .ok (.istore 5, 2) := by decide +kernel
theorem dX12_overtakes_102 : decode cX12_overtakes 102 = .ok (.bipush (-9), 2) := by decide +kernel
theorem dX12_overtakes_104 : decode cX12_overtakes 104 = .ok (.istore 6, 2) := by decide +kernel
theorem dX12_overtakes_106 : decode cX12_overtakes 106 = .ok (.iconst 1, 1) := by decide +kernel
theorem dX12_overtakes_107 : decode cX12_overtakes 107 = .ok (.istore 7, 2) := by decide +kernel
theorem dX12_overtakes_109 : decode cX12_overtakes 109 = .ok (.iload 7, 2) := by decide +kernel
theorem dX12_overtakes_111 : decode cX12_overtakes 111 = .ok (.aload_n 0, 1) := by decide +kernel
theorem dX12_overtakes_112 : decode cX12_overtakes 112 = .ok (.getfield 9, 3) := by decide +kernel
theorem dX12_overtakes_115 : decode cX12_overtakes 115 = .ok (.iconst 0, 1) := by decide +kernel
theorem dX12_overtakes_116 : decode cX12_overtakes 116 = .ok (.iaload, 1) := by decide +kernel
theorem dX12_overtakes_117 : decode cX12_overtakes 117 = .ok (.if_icmp .ge 67, 3) := by decide +kernel
theorem dX12_overtakes_120 : decode cX12_overtakes 120 = .ok (.aload_n 0, 1) := by decide +kernel
theorem dX12_overtakes_121 : decode cX12_overtakes 121 = .ok (.getfield 43, 3) := by decide +kernel
theorem dX12_overtakes_124 : decode cX12_overtakes 124 = .ok (.iload 7, 2) := by decide +kernel
theorem dX12_overtakes_126 : decode cX12_overtakes 126 = .ok (.iconst 1, 1) := by decide +kernel
theorem dX12_overtakes_127 : decode cX12_overtakes 127 = .ok (.isub, 1) := by decide +kernel
theorem dX12_overtakes_128 : decode cX12_overtakes 128 = .ok (.iaload, 1) := by decide +kernel
theorem dX12_overtakes_129 : decode cX12_overtakes 129 = .ok (.aload_n 0, 1) := by decide +kernel
theorem dX12_overtakes_130 : decode cX12_overtakes 130 = .ok (.getfield 37, 3) := by decide +kernel
theorem dX12_overtakes_133 : decode cX12_overtakes 133 = .ok (.iload 7, 2) := by decide +kernel
theorem dX12_overtakes_135 : decode cX12_overtakes 135 = .ok (.iconst 1, 1) := by decide +kernel
theorem dX12_overtakes_136 : decode cX12_overtakes 136 = .ok (.isub, 1) := by decide +kernel
theorem dX12_overtakes_137 : decode cX12_overtakes 137 = .ok (.iaload, 1) := by decide +kernel
theorem dX12_overtakes_138 : decode cX12_overtakes 138 = .ok (.if_icmp .le 40, 3) := by decide +kernel
theorem dX12_overtakes_141 : decode cX12_overtakes 141 = .ok (.aload_n 0, 1) := by decide +kernel
theorem dX12_overtakes_142 : decode cX12_overtakes 142 = .ok (.getfield 43, 3) := by decide +kernel
theorem dX12_overtakes_145 : decode cX12_overtakes 145 = .ok (.iload 7, 2) := by decide +kernel
theorem dX12_overtakes_147 : decode cX12_overtakes 147 = .ok (.iaload, 1) := by decide +kernel
theorem dX12_overtakes_148 : decode cX12_overtakes 148 = .ok (.aload_n 0, 1) := by decide +kernel
theorem dX12_overtakes_149 : decode cX12_overtakes 149 = .ok (.getfield 37, 3) := by decide +kernel
theorem dX12_overtakes_152 : decode cX12_overtakes 152 = .ok (.iload 7, 2) := by decide +kernel
theorem dX12_overtakes_154 : decode cX12_overtakes 154 = .ok (.iaload, 1) := by decide +kernel
theorem dX12_overtakes_155 : decode cX12_overtakes 155 = .ok (.if_icmp .lt 6, 3) := by decide +kernel
theorem dX12_overtakes_158 : decode cX12_overtakes 158 = .ok (.goto 20, 3) := by decide +kernel
theorem dX12_overtakes_161 : decode cX12_overtakes 161 = .ok (.iload 5, 2) := by decide +kernel
theorem dX12_overtakes_163 : decode cX12_overtakes 163 = .ok (.ifCond .ne 8, 3) := by decide +kernel
theorem dX12_overtakes_166 : decode cX12_overtakes 166 = .ok (.iload 7, 2) := by decide +kernel
theorem dX12_overtakes_168 : decode cX12_overtakes 168 = .ok (.goto 5, 3) := by decide +kernel
theorem dX12_overtakes_171 : decode cX12_overtakes 171 = .ok (.iload 6, 2) := by decide +kernel
theorem dX12_overtakes_173 : decode cX12_overtakes 173 = .ok (.istore 6, 2) := by decide +kernel
theorem dX12_overtakes_175 : decode cX12_overtakes 175 = .ok (.iinc 5 1, 3) := by decide +kernel
theorem dX12_overtakes_178 : decode cX12_overtakes 178 = .ok (.iinc 7 1, 3) := by decide +kernel
theorem dX12_overtakes_181 : decode cX12_overtakes 181 = .ok (.goto (-72), 3) := by decide +kernel
theorem dX12_overtakes_184 : decode cX12_overtakes 184 = .ok (.iload_n 3, 1) := by decide +kernel
theorem dX12_overtakes_185 : decode cX12_overtakes 185 = .ok (.ifCond .ne 8, 3) := by decide +kernel
theorem dX12_overtakes_188 : decode cX12_overtakes 188 = .ok (.iload 5, 2) := by decide +kernel
theorem dX12_overtakes_190 : decode cX12_overtakes 190 = .ok (.goto 5, 3) := by decide +kernel
theorem dX12_overtakes_193 : decode cX12_overtakes 193 = .ok (.iload 6, 2) := by decide +kernel
theorem dX12_overtakes_195 : decode cX12_overtakes 195 = .ok (.ireturn, 1) := by decide +kernel
theorem dX12_findsPlans_0 : decode cX12_findsPlans 0 = .ok (.iconst 0, 1) := by decide +kernel
theorem dX12_findsPlans_1 : decode cX12_findsPlans 1 = .ok (.istore_n 2, 1) := by decide +kernel
theorem dX12_findsPlans_2 : decode cX12_findsPlans 2 = .ok (.iload_n 2, 1) := by decide +kernel
theorem dX12_findsPlans_3 : decode cX12_findsPlans 3 = .ok (.bipush 100, 2) := by decide +kernel
theorem dX12_findsPlans_5 : decode cX12_findsPlans 5 = .ok (.if_icmp .ge 26, 3) := by decide +kernel
theorem dX12_findsPlans_8 : decode cX12_findsPlans 8 = .ok (.aload_n 0, 1) := by decide +kernel
theorem dX12_findsPlans_9 : decode cX12_findsPlans 9 = .ok (.getfield 46, 3) := by decide +kernel
theorem dX12_findsPlans_12 : decode cX12_findsPlans 12 = .ok (.aload_n 0, 1) := by decide +kernel
theorem dX12_findsPlans_13 : decode cX12_findsPlans 13 = .ok (.getfield 9, 3) := by decide +kernel
theorem dX12_findsPlans_16 : decode cX12_findsPlans 16 = .ok (.iconst 0, 1) := by decide +kernel
theorem dX12_findsPlans_17 : decode cX12_findsPlans 17 = .ok (.iaload, 1) := by decide +kernel
theorem dX12_findsPlans_18 : decode cX12_findsPlans 18 = .ok (.bipush 100, 2) := by decide +kernel
theorem dX12_findsPlans_20 : decode cX12_findsPlans 20 = .ok (.imul, 1) := by decide +kernel
theorem dX12_findsPlans_21 : decode cX12_findsPlans 21 = .ok (.iload_n 2, 1) := by decide +kernel
theorem dX12_findsPlans_22 : decode cX12_findsPlans 22 = .ok (.iadd, 1) := by decide +kernel
theorem dX12_findsPlans_23 : decode cX12_findsPlans 23 = .ok (.iconst 0, 1) := by decide +kernel
theorem dX12_findsPlans_24 : decode cX12_findsPlans 24 = .ok (.iastore, 1) := by decide +kernel
theorem dX12_findsPlans_25 : decode cX12_findsPlans 25 = .ok (.iinc 2 1, 3) := by decide +kernel
theorem dX12_findsPlans_28 : decode cX12_findsPlans 28 = .ok (.goto (-26), 3) := by decide +kernel
theorem dX12_findsPlans_31 : decode cX12_findsPlans 31 = .ok (.aload_n 0, 1) := by decide +kernel
theorem dX12_findsPlans_32 : decode cX12_findsPlans 32 = .ok (.getfield 9, 3) := by decide +kernel
theorem dX12_findsPlans_35 : decode cX12_findsPlans 35 = .ok (.iconst 0, 1) := by decide +kernel
theorem dX12_findsPlans_36 : decode cX12_findsPlans 36 = .ok (.iaload, 1) := by decide +kernel
theorem dX12_findsPlans_37 : decode cX12_findsPlans 37 = .ok (.iconst 1, 1) := by decide +kernel
theorem dX12_findsPlans_38 : decode cX12_findsPlans 38 = .ok (.isub, 1) := by decide +kernel
theorem dX12_findsPlans_39 : decode cX12_findsPlans 39 = .ok (.istore_n 2, 1) := by decide +kernel
theorem dX12_findsPlans_40 : decode cX12_findsPlans 40 = .ok (.iload_n 2, 1) := by decide +kernel
theorem dX12_findsPlans_41 : decode cX12_findsPlans 41 = .ok (.ifCond .lt 71, 3) := by decide +kernel
theorem dX12_findsPlans_44 : decode cX12_findsPlans 44 = .ok (.iconst 0, 1) := by decide +kernel
theorem dX12_findsPlans_45 : decode cX12_findsPlans 45 = .ok (.istore_n 3, 1) := by decide +kernel
theorem dX12_findsPlans_46 : decode cX12_findsPlans 46 = .ok (.iload_n 3, 1) := by decide +kernel
theorem dX12_findsPlans_47 : decode cX12_findsPlans 47 = .ok (.bipush 100, 2) := by decide +kernel
theorem dX12_findsPlans_49 : decode cX12_findsPlans 49 = .ok (.if_icmp .ge 57, 3) := by decide +kernel
theorem dX12_findsPlans_52 : decode cX12_findsPlans 52 = .ok (.ldc 55, 2) := by decide +kernel
theorem dX12_findsPlans_54 : decode cX12_findsPlans 54 = .ok (.istore 4, 2) := by decide +kernel
theorem dX12_findsPlans_56 : decode cX12_findsPlans 56 = .ok (.iconst 0, 1) := by decide +kernel
theorem dX12_findsPlans_57 : decode cX12_findsPlans 57 = .ok (.istore 5, 2) := by decide +kernel
theorem dX12_findsPlans_59 : decode cX12_findsPlans 59 = .ok (.iload 5, 2) := by decide +kernel
theorem dX12_findsPlans_61 : decode cX12_findsPlans 61 = .ok (.iconst 4, 1) := by decide +kernel
theorem dX12_findsPlans_62 : decode cX12_findsPlans 62 = .ok (.if_icmp .ge 25, 3) := by decide +kernel
theorem dX12_findsPlans_65 : decode cX12_findsPlans 65 = .ok (.iload 4, 2) := by decide +kernel
theorem dX12_findsPlans_67 : decode cX12_findsPlans 67 = .ok (.aload_n 0, 1) := by decide +kernel
theorem dX12_findsPlans_68 : decode cX12_findsPlans 68 = .ok (.iload_n 1, 1) := by decide +kernel
theorem dX12_findsPlans_69 : decode cX12_findsPlans 69 = .ok (.iload_n 2, 1) := by decide +kernel
theorem dX12_findsPlans_70 : decode cX12_findsPlans 70 = .ok (.iload_n 3, 1) := by decide +kernel
theorem dX12_findsPlans_71 : decode cX12_findsPlans 71 = .ok (.iload 5, 2) := by decide +kernel
theorem dX12_findsPlans_73 : decode cX12_findsPlans 73 = .ok (.invokevirtual 159, 3) := by decide +kernel
theorem dX12_findsPlans_76 : decode cX12_findsPlans 76 = .ok (.invokestatic 88, 3) := by decide +kernel
theorem dX12_findsPlans_79 : decode cX12_findsPlans 79 = .ok (.istore 4, 2) := by decide +kernel
theorem dX12_findsPlans_81 : decode cX12_findsPlans 81 = .ok (.iinc 5 1, 3) := by decide +kernel
theorem dX12_findsPlans_84 : decode cX12_findsPlans 84 = .ok (.goto (-25), 3) := by decide +kernel
theorem dX12_findsPlans_87 : decode cX12_findsPlans 87 = .ok (.aload_n 0, 1) := by decide +kernel
theorem dX12_findsPlans_88 : decode cX12_findsPlans 88 = .ok (.getfield 46, 3) := by decide +kernel
theorem dX12_findsPlans_91 : decode cX12_findsPlans 91 = .ok (.iload_n 2, 1) := by decide +kernel
theorem dX12_findsPlans_92 : decode cX12_findsPlans 92 = .ok (.bipush 100, 2) := by decide +kernel
theorem dX12_findsPlans_94 : decode cX12_findsPlans 94 = .ok (.imul, 1) := by decide +kernel
theorem dX12_findsPlans_95 : decode cX12_findsPlans 95 = .ok (.iload_n 3, 1) := by decide +kernel
theorem dX12_findsPlans_96 : decode cX12_findsPlans 96 = .ok (.iadd, 1) := by decide +kernel
theorem dX12_findsPlans_97 : decode cX12_findsPlans 97 = .ok (.iload 4, 2) := by decide +kernel
theorem dX12_findsPlans_99 : decode cX12_findsPlans 99 = .ok (.iastore, 1) := by decide +kernel
theorem dX12_findsPlans_100 : decode cX12_findsPlans 100 = .ok (.iinc 3 1, 3) := by decide +kernel
theorem dX12_findsPlans_103 : decode cX12_findsPlans 103 = .ok (.goto (-57), 3) := by decide +kernel
theorem dX12_findsPlans_106 : decode cX12_findsPlans 106 = .ok (.iinc 2 (-1), 3) := by decide +kernel
theorem dX12_findsPlans_109 : decode cX12_findsPlans 109 = .ok (.goto (-69), 3) := by decide +kernel
theorem dX12_findsPlans_112 : decode cX12_findsPlans 112 = .ok (.return_, 1) := by decide +kernel
theorem dX12_withTries_0 : decode cX12_withTries 0 = .ok (.aload_n 0, 1) := by decide +kernel
theorem dX12_withTries_1 : decode cX12_withTries 1 = .ok (.getfield 9, 3) := by decide +kernel
theorem dX12_withTries_4 : decode cX12_withTries 4 = .ok (.iload_n 1, 1) := by decide +kernel
theorem dX12_withTries_5 : decode cX12_withTries 5 = .ok (.iload_n 2, 1) := by decide +kernel
theorem dX12_withTries_6 : decode cX12_withTries 6 = .ok (.iload_n 3, 1) := by decide +kernel
theorem dX12_withTries_7 : decode cX12_withTries 7 = .ok (.iload 4, 2) := by decide +kernel
theorem dX12_withTries_9 : decode cX12_withTries 9 = .ok (.invokestatic 94, 3) := by decide +kernel
theorem dX12_withTries_12 : decode cX12_withTries 12 = .ok (.aload_n 0, 1) := by decide +kernel
theorem dX12_withTries_13 : decode cX12_withTries 13 = .ok (.getfield 46, 3) := by decide +kernel
theorem dX12_withTries_16 : decode cX12_withTries 16 = .ok (.iload_n 2, 1) := by decide +kernel
theorem dX12_withTries_17 : decode cX12_withTries 17 = .ok (.iconst 1, 1) := by decide +kernel
theorem dX12_withTries_18 : decode cX12_withTries 18 = .ok (.iadd, 1) := by decide +kernel
theorem dX12_withTries_19 : decode cX12_withTries 19 = .ok (.bipush 100, 2) := by decide +kernel
theorem dX12_withTries_21 : decode cX12_withTries 21 = .ok (.imul, 1) := by decide +kernel
theorem dX12_withTries_22 : decode cX12_withTries 22 = .ok (.aload_n 0, 1) := by decide +kernel
theorem dX12_withTries_23 : decode cX12_withTries 23 = .ok (.getfield 9, 3) := by decide +kernel
theorem dX12_withTries_26 : decode cX12_withTries 26 = .ok (.iload_n 2, 1) := by decide +kernel
theorem dX12_withTries_27 : decode cX12_withTries 27 = .ok (.iload_n 3, 1) := by decide +kernel
theorem dX12_withTries_28 : decode cX12_withTries 28 = .ok (.iload 4, 2) := by decide +kernel
theorem dX12_withTries_30 : decode cX12_withTries 30 = .ok (.invokestatic 98, 3) := by decide +kernel
theorem dX12_withTries_33 : decode cX12_withTries 33 = .ok (.iadd, 1) := by decide +kernel
theorem dX12_withTries_34 : decode cX12_withTries 34 = .ok (.iaload, 1) := by decide +kernel
theorem dX12_withTries_35 : decode cX12_withTries 35 = .ok (.iadd, 1) := by decide +kernel
theorem dX12_withTries_36 : decode cX12_withTries 36 = .ok (.ireturn, 1) := by decide +kernel
theorem dX12_bestPlan_0 : decode cX12_bestPlan 0 = .ok (.aload_n 0, 1) := by decide +kernel
theorem dX12_bestPlan_1 : decode cX12_bestPlan 1 = .ok (.iload_n 1, 1) := by decide +kernel
theorem dX12_bestPlan_2 : decode cX12_bestPlan 2 = .ok (.invokevirtual 136, 3) := by decide +kernel
theorem dX12_bestPlan_5 : decode cX12_bestPlan 5 = .ok (.ifCond .eq 16, 3) := by decide +kernel
theorem dX12_bestPlan_8 : decode cX12_bestPlan 8 = .ok (.iload_n 2, 1) := by decide +kernel
theorem dX12_bestPlan_9 : decode cX12_bestPlan 9 = .ok (.iconst (-1), 1) := by decide +kernel
theorem dX12_bestPlan_10 : decode cX12_bestPlan 10 = .ok (.if_icmp .eq 17, 3) := by decide +kernel
theorem dX12_bestPlan_13 : decode cX12_bestPlan 13 = .ok (.aload_n 0, 1) := by decide +kernel
theorem dX12_bestPlan_14 : decode cX12_bestPlan 14 = .ok (.iload_n 2, 1) := by decide +kernel
theorem dX12_bestPlan_15 : decode cX12_bestPlan 15 = .ok (.invokevirtual 139, 3) := by decide +kernel
theorem dX12_bestPlan_18 : decode cX12_bestPlan 18 = .ok (.ifCond .ne 9, 3) := by decide +kernel
theorem dX12_bestPlan_21 : decode cX12_bestPlan 21 = .ok (.aload_n 0, 1) := by decide +kernel
theorem dX12_bestPlan_22 : decode cX12_bestPlan 22 = .ok (.iconst (-1), 1) := by decide +kernel
theorem dX12_bestPlan_23 : decode cX12_bestPlan 23 = .ok (.invokevirtual 56, 3) := by decide +kernel
theorem dX12_bestPlan_26 : decode cX12_bestPlan 26 = .ok (.ireturn, 1) := by decide +kernel
theorem dX12_bestPlan_27 : decode cX12_bestPlan 27 = .ok (.aload_n 0, 1) := by decide +kernel
theorem dX12_bestPlan_28 : decode cX12_bestPlan 28 = .ok (.iload_n 1, 1) := by decide +kernel
theorem dX12_bestPlan_29 : decode cX12_bestPlan 29 = .ok (.invokevirtual 163, 3) := by decide +kernel
theorem dX12_bestPlan_32 : decode cX12_bestPlan 32 = .ok (.aload_n 0, 1) := by decide +kernel
theorem dX12_bestPlan_33 : decode cX12_bestPlan 33 = .ok (.getfield 9, 3) := by decide +kernel
theorem dX12_bestPlan_36 : decode cX12_bestPlan 36 = .ok (.iload_n 1, 1) := by decide +kernel
theorem dX12_bestPlan_37 : decode cX12_bestPlan 37 = .ok (.iconst 3, 1) := by decide +kernel
theorem dX12_bestPlan_38 : decode cX12_bestPlan 38 = .ok (.invokestatic 70, 3) := by decide +kernel
theorem dX12_bestPlan_41 : decode cX12_bestPlan 41 = .ok (.iaload, 1) := by decide +kernel
theorem dX12_bestPlan_42 : decode cX12_bestPlan 42 = .ok (.istore_n 3, 1) := by decide +kernel
theorem dX12_bestPlan_43 : decode cX12_bestPlan 43 = .ok (.iload_n 2, 1) := by decide +kernel
theorem dX12_bestPlan_44 : decode cX12_bestPlan 44 = .ok (.ifCond .ge 10, 3) := by decide +kernel
theorem dX12_bestPlan_47 : decode cX12_bestPlan 47 = .ok (.aload_n 0, 1) := by decide +kernel
theorem dX12_bestPlan_48 : decode cX12_bestPlan 48 = .ok (.getfield 46, 3) := by decide +kernel
theorem dX12_bestPlan_51 : decode cX12_bestPlan 51 = .ok (.iload_n 3, 1) := by decide +kernel
theorem dX12_bestPlan_52 : decode cX12_bestPlan 52 = .ok (.iaload, 1) := by decide +kernel
theorem dX12_bestPlan_53 : decode cX12_bestPlan 53 = .ok (.ireturn, 1) := by decide +kernel
theorem dX12_bestPlan_54 : decode cX12_bestPlan 54 = .ok (.iconst 0, 1) := by decide +kernel
theorem dX12_bestPlan_55 : decode cX12_bestPlan 55 = .ok (.istore 4, 2) := by decide +kernel
theorem dX12_bestPlan_57 : decode cX12_bestPlan 57 = .ok (.iconst 0, 1) := by decide +kernel
theorem dX12_bestPlan_58 : decode cX12_bestPlan 58 = .ok (.istore 5, 2) := by decide +kernel
theorem dX12_bestPlan_60 : decode cX12_bestPlan 60 = .ok (.iload 5, 2) := by decide +kernel
theorem dX12_bestPlan_62 : decode cX12_bestPlan 62 = .ok (.iload_n 2, 1) := by decide +kernel
theorem dX12_bestPlan_63 : decode cX12_bestPlan 63 = .ok (.if_icmp .gt 56, 3) := by decide +kernel
theorem dX12_bestPlan_66 : decode cX12_bestPlan 66 = .ok (.iconst 0, 1) := by decide +kernel
theorem dX12_bestPlan_67 : decode cX12_bestPlan 67 = .ok (.istore 4, 2) := by decide +kernel
theorem dX12_bestPlan_69 : decode cX12_bestPlan 69 = .ok (.aload_n 0, 1) := by decide +kernel
theorem dX12_bestPlan_70 : decode cX12_bestPlan 70 = .ok (.iload_n 1, 1) := by decide +kernel
theorem dX12_bestPlan_71 : decode cX12_bestPlan 71 = .ok (.iload 5, 2) := by decide +kernel
theorem dX12_bestPlan_73 : decode cX12_bestPlan 73 = .ok (.iload_n 3, 1) := by decide +kernel
theorem dX12_bestPlan_74 : decode cX12_bestPlan 74 = .ok (.iload 4, 2) := by decide +kernel
theorem dX12_bestPlan_76 : decode cX12_bestPlan 76 = .ok (.invokevirtual 159, 3) := by decide +kernel
theorem dX12_bestPlan_79 : decode cX12_bestPlan 79 = .ok (.aload_n 0, 1) := by decide +kernel
theorem dX12_bestPlan_80 : decode cX12_bestPlan 80 = .ok (.getfield 46, 3) := by decide +kernel
theorem dX12_bestPlan_83 : decode cX12_bestPlan 83 = .ok (.iload 5, 2) := by decide +kernel
theorem dX12_bestPlan_85 : decode cX12_bestPlan 85 = .ok (.bipush 100, 2) := by decide +kernel
theorem dX12_bestPlan_87 : decode cX12_bestPlan 87 = .ok (.imul, 1) := by decide +kernel
theorem dX12_bestPlan_88 : decode cX12_bestPlan 88 = .ok (.iload_n 3, 1) := by decide +kernel
theorem dX12_bestPlan_89 : decode cX12_bestPlan 89 = .ok (.iadd, 1) := by decide +kernel
theorem dX12_bestPlan_90 : decode cX12_bestPlan 90 = .ok (.iaload, 1) := by decide +kernel
theorem dX12_bestPlan_91 : decode cX12_bestPlan 91 = .ok (.if_icmp .le 9, 3) := by decide +kernel
theorem dX12_bestPlan_94 : decode cX12_bestPlan 94 = .ok (.iinc 4 1, 3) := by decide +kernel
theorem dX12_bestPlan_97 : decode cX12_bestPlan 97 = .ok (.goto (-28), 3) := by decide +kernel
theorem dX12_bestPlan_100 : decode cX12_bestPlan 100 = .ok (.aload_n 0, 1) := by decide +kernel
theorem dX12_bestPlan_101 : decode cX12_bestPlan 101 = .ok (.getfield 9, 3) := by decide +kernel
theorem dX12_bestPlan_104 : decode cX12_bestPlan 104 = .ok (.iload 5, 2) := by decide +kernel
theorem dX12_bestPlan_106 : decode cX12_bestPlan 106 = .ok (.iload_n 3, 1) := by decide +kernel
theorem dX12_bestPlan_107 : decode cX12_bestPlan 107 = .ok (.iload 4, 2) := by decide +kernel
theorem dX12_bestPlan_109 : decode cX12_bestPlan 109 = .ok (.invokestatic 98, 3) := by decide +kernel
theorem dX12_bestPlan_112 : decode cX12_bestPlan 112 = .ok (.istore_n 3, 1) := by decide +kernel
theorem dX12_bestPlan_113 : decode cX12_bestPlan 113 = .ok (.iinc 5 1, 3) := by decide +kernel
theorem dX12_bestPlan_116 : decode cX12_bestPlan 116 = .ok (.goto (-56), 3) := by decide +kernel
theorem dX12_bestPlan_119 : decode cX12_bestPlan 119 = .ok (.iload 4, 2) := by decide +kernel
theorem dX12_bestPlan_121 : decode cX12_bestPlan 121 = .ok (.ireturn, 1) := by decide +kernel
theorem dX12_hardest_0 : decode cX12_hardest 0 = .ok (.aload_n 0, 1) := by decide +kernel
theorem dX12_hardest_1 : decode cX12_hardest 1 = .ok (.iload_n 1, 1) := by decide +kernel
theorem dX12_hardest_2 : decode cX12_hardest 2 = .ok (.invokevirtual 136, 3) := by decide +kernel
theorem dX12_hardest_5 : decode cX12_hardest 5 = .ok (.ifCond .ne 9, 3) := by decide +kernel
theorem dX12_hardest_8 : decode cX12_hardest 8 = .ok (.aload_n 0, 1) := by decide +kernel
theorem dX12_hardest_9 : decode cX12_hardest 9 = .ok (.iconst (-1), 1) := by decide +kernel
theorem dX12_hardest_10 : decode cX12_hardest 10 = .ok (.invokevirtual 56, 3) := by decide +kernel
theorem dX12_hardest_13 : decode cX12_hardest 13 = .ok (.ireturn, 1) := by decide +kernel
theorem dX12_hardest_14 : decode cX12_hardest 14 = .ok (.iconst 3, 1) := by decide +kernel
theorem dX12_hardest_15 : decode cX12_hardest 15 = .ok (.istore_n 2, 1) := by decide +kernel
theorem dX12_hardest_16 : decode cX12_hardest 16 = .ok (.iload_n 2, 1) := by decide +kernel
theorem dX12_hardest_17 : decode cX12_hardest 17 = .ok (.ifCond .lt 114, 3) := by decide +kernel
theorem dX12_hardest_20 : decode cX12_hardest 20 = .ok (.aload_n 0, 1) := by decide +kernel
theorem dX12_hardest_21 : decode cX12_hardest 21 = .ok (.getfield 9, 3) := by decide +kernel
theorem dX12_hardest_24 : decode cX12_hardest 24 = .ok (.aload_n 0, 1) := by decide +kernel
theorem dX12_hardest_25 : decode cX12_hardest 25 = .ok (.getfield 13, 3) := by decide +kernel
theorem dX12_hardest_28 : decode cX12_hardest 28 = .ok (.invokestatic 149, 3) := by decide +kernel
theorem dX12_hardest_31 : decode cX12_hardest 31 = .ok (.iconst 0, 1) := by decide +kernel
theorem dX12_hardest_32 : decode cX12_hardest 32 = .ok (.istore_n 3, 1) := by decide +kernel
theorem dX12_hardest_33 : decode cX12_hardest 33 = .ok (.iload_n 3, 1) := by decide +kernel
theorem dX12_hardest_34 : decode cX12_hardest 34 = .ok (.aload_n 0, 1) := by decide +kernel
theorem dX12_hardest_35 : decode cX12_hardest 35 = .ok (.getfield 9, 3) := by decide +kernel
theorem dX12_hardest_38 : decode cX12_hardest 38 = .ok (.iconst 0, 1) := by decide +kernel
theorem dX12_hardest_39 : decode cX12_hardest 39 = .ok (.iaload, 1) := by decide +kernel
theorem dX12_hardest_40 : decode cX12_hardest 40 = .ok (.if_icmp .ge 31, 3) := by decide +kernel
theorem dX12_hardest_43 : decode cX12_hardest 43 = .ok (.aload_n 0, 1) := by decide +kernel
theorem dX12_hardest_44 : decode cX12_hardest 44 = .ok (.getfield 9, 3) := by decide +kernel
theorem dX12_hardest_47 : decode cX12_hardest 47 = .ok (.iload_n 3, 1) := by decide +kernel
theorem dX12_hardest_48 : decode cX12_hardest 48 = .ok (.invokestatic 73, 3) := by decide +kernel
theorem dX12_hardest_51 : decode cX12_hardest 51 = .ok (.ifCond .eq 14, 3) := by decide +kernel
theorem dX12_hardest_54 : decode cX12_hardest 54 = .ok (.aload_n 0, 1) := by decide +kernel
theorem dX12_hardest_55 : decode cX12_hardest 55 = .ok (.getfield 13, 3) := by decide +kernel
theorem dX12_hardest_58 : decode cX12_hardest 58 = .ok (.iload_n 1, 1) := by decide +kernel
theorem dX12_hardest_59 : decode cX12_hardest 59 = .ok (.iload_n 3, 1) := by decide +kernel
theorem dX12_hardest_60 : decode cX12_hardest 60 = .ok (.invokestatic 91, 3) := by decide +kernel
theorem dX12_hardest_63 : decode cX12_hardest 63 = .ok (.iload_n 2, 1) := by decide +kernel
theorem dX12_hardest_64 : decode cX12_hardest 64 = .ok (.iastore, 1) := by decide +kernel
theorem dX12_hardest_65 : decode cX12_hardest 65 = .ok (.iinc 3 1, 3) := by decide +kernel
theorem dX12_hardest_68 : decode cX12_hardest 68 = .ok (.goto (-35), 3) := by decide +kernel
theorem dX12_hardest_71 : decode cX12_hardest 71 = .ok (.aload_n 0, 1) := by decide +kernel
theorem dX12_hardest_72 : decode cX12_hardest 72 = .ok (.aload_n 0, 1) := by decide +kernel
theorem dX12_hardest_73 : decode cX12_hardest 73 = .ok (.getfield 13, 3) := by decide +kernel
theorem dX12_hardest_76 : decode cX12_hardest 76 = .ok (.iload_n 1, 1) := by decide +kernel
theorem dX12_hardest_77 : decode cX12_hardest 77 = .ok (.invokevirtual 156, 3) := by decide +kernel
theorem dX12_hardest_80 : decode cX12_hardest 80 = .ok (.istore_n 3, 1) := by decide +kernel
theorem dX12_hardest_81 : decode cX12_hardest 81 = .ok (.aload_n 0, 1) := by decide +kernel
theorem dX12_hardest_82 : decode cX12_hardest 82 = .ok (.getfield 9, 3) := by decide +kernel
theorem dX12_hardest_85 : decode cX12_hardest 85 = .ok (.iconst 0, 1) := by decide +kernel
theorem dX12_hardest_86 : decode cX12_hardest 86 = .ok (.iaload, 1) := by decide +kernel
theorem dX12_hardest_87 : decode cX12_hardest 87 = .ok (.ifCond .ne 16, 3) := by decide +kernel
theorem dX12_hardest_90 : decode cX12_hardest 90 = .ok (.aload_n 0, 1) := by decide +kernel
theorem dX12_hardest_91 : decode cX12_hardest 91 = .ok (.getfield 9, 3) := by decide +kernel
theorem dX12_hardest_94 : decode cX12_hardest 94 = .ok (.iload_n 1, 1) := by decide +kernel
theorem dX12_hardest_95 : decode cX12_hardest 95 = .ok (.iconst 3, 1) := by decide +kernel
theorem dX12_hardest_96 : decode cX12_hardest 96 = .ok (.invokestatic 70, 3) := by decide +kernel
theorem dX12_hardest_99 : decode cX12_hardest 99 = .ok (.iaload, 1) := by decide +kernel
theorem dX12_hardest_100 : decode cX12_hardest 100 = .ok (.goto 16, 3) := by decide +kernel
theorem dX12_hardest_103 : decode cX12_hardest 103 = .ok (.aload_n 0, 1) := by decide +kernel
theorem dX12_hardest_104 : decode cX12_hardest 104 = .ok (.getfield 34, 3) := by decide +kernel
theorem dX12_hardest_107 : decode cX12_hardest 107 = .ok (.aload_n 0, 1) := by decide +kernel
theorem dX12_hardest_108 : decode cX12_hardest 108 = .ok (.getfield 9, 3) := by decide +kernel
theorem dX12_hardest_111 : decode cX12_hardest 111 = .ok (.iconst 0, 1) := by decide +kernel
theorem dX12_hardest_112 : decode cX12_hardest 112 = .ok (.iaload, 1) := by decide +kernel
theorem dX12_hardest_113 : decode cX12_hardest 113 = .ok (.iconst 1, 1) := by decide +kernel
theorem dX12_hardest_114 : decode cX12_hardest 114 = .ok (.isub, 1) := by decide +kernel
theorem dX12_hardest_115 : decode cX12_hardest 115 = .ok (.iaload, 1) := by decide +kernel
theorem dX12_hardest_116 : decode cX12_hardest 116 = .ok (.istore 4, 2) := by decide +kernel
theorem dX12_hardest_118 : decode cX12_hardest 118 = .ok (.iload 4, 2) := by decide +kernel
theorem dX12_hardest_120 : decode cX12_hardest 120 = .ok (.ifCond .le 5, 3) := by decide +kernel
theorem dX12_hardest_123 : decode cX12_hardest 123 = .ok (.iload_n 2, 1) := by decide +kernel
theorem dX12_hardest_124 : decode cX12_hardest 124 = .ok (.ireturn, 1) := by decide +kernel
theorem dX12_hardest_125 : decode cX12_hardest 125 = .ok (.iinc 2 (-1), 3) := by decide +kernel
theorem dX12_hardest_128 : decode cX12_hardest 128 = .ok (.goto (-112), 3) := by decide +kernel
theorem dX12_hardest_131 : decode cX12_hardest 131 = .ok (.bipush (-9), 2) := by decide +kernel
theorem dX12_hardest_133 : decode cX12_hardest 133 = .ok (.ireturn, 1) := by decide +kernel
theorem dX12_leastTries_0 : decode cX12_leastTries 0 = .ok (.aload_n 0, 1) := by decide +kernel
theorem dX12_leastTries_1 : decode cX12_leastTries 1 = .ok (.iload_n 1, 1) := by decide +kernel
theorem dX12_leastTries_2 : decode cX12_leastTries 2 = .ok (.invokevirtual 136, 3) := by decide +kernel
theorem dX12_leastTries_5 : decode cX12_leastTries 5 = .ok (.ifCond .ne 9, 3) := by decide +kernel
theorem dX12_leastTries_8 : decode cX12_leastTries 8 = .ok (.aload_n 0, 1) := by decide +kernel
theorem dX12_leastTries_9 : decode cX12_leastTries 9 = .ok (.iconst (-1), 1) := by decide +kernel
theorem dX12_leastTries_10 : decode cX12_leastTries 10 = .ok (.invokevirtual 56, 3) := by decide +kernel
theorem dX12_leastTries_13 : decode cX12_leastTries 13 = .ok (.ireturn, 1) := by decide +kernel
theorem dX12_leastTries_14 : decode cX12_leastTries 14 = .ok (.iload_n 2, 1) := by decide +kernel
theorem dX12_leastTries_15 : decode cX12_leastTries 15 = .ok (.ifCond .ge 10, 3) := by decide +kernel
theorem dX12_leastTries_18 : decode cX12_leastTries 18 = .ok (.aload_n 0, 1) := by decide +kernel
theorem dX12_leastTries_19 : decode cX12_leastTries 19 = .ok (.bipush (-4), 2) := by decide +kernel
theorem dX12_leastTries_21 : decode cX12_leastTries 21 = .ok (.invokevirtual 56, 3) := by decide +kernel
theorem dX12_leastTries_24 : decode cX12_leastTries 24 = .ok (.ireturn, 1) := by decide +kernel
theorem dX12_leastTries_25 : decode cX12_leastTries 25 = .ok (.iload_n 2, 1) := by decide +kernel
theorem dX12_leastTries_26 : decode cX12_leastTries 26 = .ok (.sipush 999, 3) := by decide +kernel
theorem dX12_leastTries_29 : decode cX12_leastTries 29 = .ok (.if_icmp .le 10, 3) := by decide +kernel
theorem dX12_leastTries_32 : decode cX12_leastTries 32 = .ok (.aload_n 0, 1) := by decide +kernel
theorem dX12_leastTries_33 : decode cX12_leastTries 33 = .ok (.bipush (-6), 2) := by decide +kernel
theorem dX12_leastTries_35 : decode cX12_leastTries 35 = .ok (.invokevirtual 56, 3) := by decide +kernel
theorem dX12_leastTries_38 : decode cX12_leastTries 38 = .ok (.ireturn, 1) := by decide +kernel
theorem dX12_leastTries_39 : decode cX12_leastTries 39 = .ok (.iconst 0, 1) := by decide +kernel
theorem dX12_leastTries_40 : decode cX12_leastTries 40 = .ok (.istore_n 3, 1) := by decide +kernel
theorem dX12_leastTries_41 : decode cX12_leastTries 41 = .ok (.iload_n 3, 1) := by decide +kernel
theorem dX12_leastTries_42 : decode cX12_leastTries 42 = .ok (.sipush 3100, 3) := by decide +kernel
theorem dX12_leastTries_45 : decode cX12_leastTries 45 = .ok (.if_icmp .ge 17, 3) := by decide +kernel
theorem dX12_leastTries_48 : decode cX12_leastTries 48 = .ok (.aload_n 0, 1) := by decide +kernel
theorem dX12_leastTries_49 : decode cX12_leastTries 49 = .ok (.getfield 49, 3) := by decide +kernel
theorem dX12_leastTries_52 : decode cX12_leastTries 52 = .ok (.iload_n 3, 1) := by decide +kernel
theorem dX12_leastTries_53 : decode cX12_leastTries 53 = .ok (.ldc 55, 2) := by decide +kernel
theorem dX12_leastTries_55 : decode cX12_leastTries 55 = .ok (.iastore, 1) := by decide +kernel
theorem dX12_leastTries_56 : decode cX12_leastTries 56 = .ok (.iinc 3 1, 3) := by decide +kernel
theorem dX12_leastTries_59 : decode cX12_leastTries 59 = .ok (.goto (-18), 3) := by decide +kernel
theorem dX12_leastTries_62 : decode cX12_leastTries 62 = .ok (.aload_n 0, 1) := by decide +kernel
theorem dX12_leastTries_63 : decode cX12_leastTries 63 = .ok (.getfield 49, 3) := by decide +kernel
theorem dX12_leastTries_66 : decode cX12_leastTries 66 = .ok (.aload_n 0, 1) := by decide +kernel
theorem dX12_leastTries_67 : decode cX12_leastTries 67 = .ok (.getfield 9, 3) := by decide +kernel
theorem dX12_leastTries_70 : decode cX12_leastTries 70 = .ok (.iload_n 1, 1) := by decide +kernel
theorem dX12_leastTries_71 : decode cX12_leastTries 71 = .ok (.iconst 3, 1) := by decide +kernel
theorem dX12_leastTries_72 : decode cX12_leastTries 72 = .ok (.invokestatic 70, 3) := by decide +kernel
theorem dX12_leastTries_75 : decode cX12_leastTries 75 = .ok (.iaload, 1) := by decide +kernel
theorem dX12_leastTries_76 : decode cX12_leastTries 76 = .ok (.bipush 31, 2) := by decide +kernel
theorem dX12_leastTries_78 : decode cX12_leastTries 78 = .ok (.imul, 1) := by decide +kernel
theorem dX12_leastTries_79 : decode cX12_leastTries 79 = .ok (.iconst 0, 1) := by decide +kernel
theorem dX12_leastTries_80 : decode cX12_leastTries 80 = .ok (.iastore, 1) := by decide +kernel
theorem dX12_leastTries_81 : decode cX12_leastTries 81 = .ok (.iconst 0, 1) := by decide +kernel
theorem dX12_leastTries_82 : decode cX12_leastTries 82 = .ok (.istore_n 3, 1) := by decide +kernel
theorem dX12_leastTries_83 : decode cX12_leastTries 83 = .ok (.iload_n 3, 1) := by decide +kernel
theorem dX12_leastTries_84 : decode cX12_leastTries 84 = .ok (.aload_n 0, 1) := by decide +kernel
theorem dX12_leastTries_85 : decode cX12_leastTries 85 = .ok (.getfield 9, 3) := by decide +kernel
theorem dX12_leastTries_88 : decode cX12_leastTries 88 = .ok (.iconst 0, 1) := by decide +kernel
theorem dX12_leastTries_89 : decode cX12_leastTries 89 = .ok (.iaload, 1) := by decide +kernel
theorem dX12_leastTries_90 : decode cX12_leastTries 90 = .ok (.if_icmp .ge 194, 3) := by decide +kernel
theorem dX12_leastTries_93 : decode cX12_leastTries 93 = .ok (.iconst 0, 1) := by decide +kernel
theorem dX12_leastTries_94 : decode cX12_leastTries 94 = .ok (.istore 4, 2) := by decide +kernel
theorem dX12_leastTries_96 : decode cX12_leastTries 96 = .ok (.iload 4, 2) := by decide +kernel
theorem dX12_leastTries_98 : decode cX12_leastTries 98 = .ok (.sipush 3100, 3) := by decide +kernel
theorem dX12_leastTries_101 : decode cX12_leastTries 101 = .ok (.if_icmp .ge 18, 3) := by decide +kernel
theorem dX12_leastTries_104 : decode cX12_leastTries 104 = .ok (.aload_n 0, 1) := by decide +kernel
theorem dX12_leastTries_105 : decode cX12_leastTries 105 = .ok (.getfield 52, 3) := by decide +kernel
theorem dX12_leastTries_108 : decode cX12_leastTries 108 = .ok (.iload 4, 2) := by decide +kernel
theorem dX12_leastTries_110 : decode cX12_leastTries 110 = .ok (.ldc 55, 2) := by decide +kernel
theorem dX12_leastTries_112 : decode cX12_leastTries 112 = .ok (.iastore, 1) := by decide +kernel
theorem dX12_leastTries_113 : decode cX12_leastTries 113 = .ok (.iinc 4 1, 3) := by decide +kernel
theorem dX12_leastTries_116 : decode cX12_leastTries 116 = .ok (.goto (-20), 3) := by decide +kernel
theorem dX12_leastTries_119 : decode cX12_leastTries 119 = .ok (.iconst 0, 1) := by decide +kernel
theorem dX12_leastTries_120 : decode cX12_leastTries 120 = .ok (.istore 4, 2) := by decide +kernel
theorem dX12_leastTries_122 : decode cX12_leastTries 122 = .ok (.iload 4, 2) := by decide +kernel
theorem dX12_leastTries_124 : decode cX12_leastTries 124 = .ok (.sipush 3100, 3) := by decide +kernel
theorem dX12_leastTries_127 : decode cX12_leastTries 127 = .ok (.if_icmp .ge 120, 3) := by decide +kernel
theorem dX12_leastTries_130 : decode cX12_leastTries 130 = .ok (.iload 4, 2) := by decide +kernel
theorem dX12_leastTries_132 : decode cX12_leastTries 132 = .ok (.bipush 31, 2) := by decide +kernel
theorem dX12_leastTries_134 : decode cX12_leastTries 134 = .ok (.idiv, 1) := by decide +kernel
theorem dX12_leastTries_135 : decode cX12_leastTries 135 = .ok (.istore 5, 2) := by decide +kernel
theorem dX12_leastTries_137 : decode cX12_leastTries 137 = .ok (.iconst 0, 1) := by decide +kernel
theorem dX12_leastTries_138 : decode cX12_leastTries 138 = .ok (.istore 6, 2) := by decide +kernel
theorem dX12_leastTries_140 : decode cX12_leastTries 140 = .ok (.iload 6, 2) := by decide +kernel
theorem dX12_leastTries_142 : decode cX12_leastTries 142 = .ok (.iconst 4, 1) := by decide +kernel
theorem dX12_leastTries_143 : decode cX12_leastTries 143 = .ok (.if_icmp .ge 98, 3) := by decide +kernel
theorem dX12_leastTries_146 : decode cX12_leastTries 146 = .ok (.aload_n 0, 1) := by decide +kernel
theorem dX12_leastTries_147 : decode cX12_leastTries 147 = .ok (.getfield 49, 3) := by decide +kernel
theorem dX12_leastTries_150 : decode cX12_leastTries 150 = .ok (.iload 4, 2) := by decide +kernel
theorem dX12_leastTries_152 : decode cX12_leastTries 152 = .ok (.iaload, 1) := by decide +kernel
theorem dX12_leastTries_153 : decode cX12_leastTries 153 = .ok (.ldc 55, 2) := by decide +kernel
theorem dX12_leastTries_155 : decode cX12_leastTries 155 = .ok (.if_icmp .ge 86, 3) := by decide +kernel
theorem dX12_leastTries_158 : decode cX12_leastTries 158 = .ok (.iload 4, 2) := by decide +kernel
theorem dX12_leastTries_160 : decode cX12_leastTries 160 = .ok (.bipush 31, 2) := by decide +kernel
theorem dX12_leastTries_162 : decode cX12_leastTries 162 = .ok (.irem, 1) := by decide +kernel
theorem dX12_leastTries_163 : decode cX12_leastTries 163 = .ok (.iload 6, 2) := by decide +kernel
theorem dX12_leastTries_165 : decode cX12_leastTries 165 = .ok (.iadd, 1) := by decide +kernel
theorem dX12_leastTries_166 : decode cX12_leastTries 166 = .ok (.bipush 31, 2) := by decide +kernel
theorem dX12_leastTries_168 : decode cX12_leastTries 168 = .ok (.if_icmp .ge 73, 3) := by decide +kernel
theorem dX12_leastTries_171 : decode cX12_leastTries 171 = .ok (.aload_n 0, 1) := by decide +kernel
theorem dX12_leastTries_172 : decode cX12_leastTries 172 = .ok (.getfield 9, 3) := by decide +kernel
theorem dX12_leastTries_175 : decode cX12_leastTries 175 = .ok (.iload_n 3, 1) := by decide +kernel
theorem dX12_leastTries_176 : decode cX12_leastTries 176 = .ok (.iload 5, 2) := by decide +kernel
theorem dX12_leastTries_178 : decode cX12_leastTries 178 = .ok (.iload 6, 2) := by decide +kernel
theorem dX12_leastTries_180 : decode cX12_leastTries 180 = .ok (.invokestatic 98, 3) := by decide +kernel
theorem dX12_leastTries_183 : decode cX12_leastTries 183 = .ok (.bipush 31, 2) := by decide +kernel
theorem dX12_leastTries_185 : decode cX12_leastTries 185 = .ok (.imul, 1) := by decide +kernel
theorem dX12_leastTries_186 : decode cX12_leastTries 186 = .ok (.iload 4, 2) := by decide +kernel
theorem dX12_leastTries_188 : decode cX12_leastTries 188 = .ok (.bipush 31, 2) := by decide +kernel
theorem dX12_leastTries_190 : decode cX12_leastTries 190 = .ok (.irem, 1) := by decide +kernel
theorem dX12_leastTries_191 : decode cX12_leastTries 191 = .ok (.iadd, 1) := by decide +kernel
theorem dX12_leastTries_192 : decode cX12_leastTries 192 = .ok (.iload 6, 2) := by decide +kernel
theorem dX12_leastTries_194 : decode cX12_leastTries 194 = .ok (.iadd, 1) := by decide +kernel
theorem dX12_leastTries_195 : decode cX12_leastTries 195 = .ok (.istore 7, 2) := by decide +kernel
theorem dX12_leastTries_197 : decode cX12_leastTries 197 = .ok (.aload_n 0, 1) := by decide +kernel
theorem dX12_leastTries_198 : decode cX12_leastTries 198 = .ok (.getfield 52, 3) := by decide +kernel
theorem dX12_leastTries_201 : decode cX12_leastTries 201 = .ok (.iload 7, 2) := by decide +kernel
theorem dX12_leastTries_203 : decode cX12_leastTries 203 = .ok (.aload_n 0, 1) := by decide +kernel
theorem dX12_leastTries_204 : decode cX12_leastTries 204 = .ok (.getfield 52, 3) := by decide +kernel
theorem dX12_leastTries_207 : decode cX12_leastTries 207 = .ok (.iload 7, 2) := by decide +kernel
theorem dX12_leastTries_209 : decode cX12_leastTries 209 = .ok (.iaload, 1) := by decide +kernel
theorem dX12_leastTries_210 : decode cX12_leastTries 210 = .ok (.aload_n 0, 1) := by decide +kernel
theorem dX12_leastTries_211 : decode cX12_leastTries 211 = .ok (.getfield 49, 3) := by decide +kernel
theorem dX12_leastTries_214 : decode cX12_leastTries 214 = .ok (.iload 4, 2) := by decide +kernel
theorem dX12_leastTries_216 : decode cX12_leastTries 216 = .ok (.iaload, 1) := by decide +kernel
theorem dX12_leastTries_217 : decode cX12_leastTries 217 = .ok (.aload_n 0, 1) := by decide +kernel
theorem dX12_leastTries_218 : decode cX12_leastTries 218 = .ok (.getfield 9, 3) := by decide +kernel
theorem dX12_leastTries_221 : decode cX12_leastTries 221 = .ok (.iload_n 1, 1) := by decide +kernel
theorem dX12_leastTries_222 : decode cX12_leastTries 222 = .ok (.iload_n 3, 1) := by decide +kernel
theorem dX12_leastTries_223 : decode cX12_leastTries 223 = .ok (.iload 5, 2) := by decide +kernel
theorem dX12_leastTries_225 : decode cX12_leastTries 225 = .ok (.iload 6, 2) := by decide +kernel
theorem dX12_leastTries_227 : decode cX12_leastTries 227 = .ok (.invokestatic 94, 3) := by decide +kernel
theorem dX12_leastTries_230 : decode cX12_leastTries 230 = .ok (.iadd, 1) := by decide +kernel
theorem dX12_leastTries_231 : decode cX12_leastTries 231 = .ok (.invokestatic 88, 3) := by decide +kernel
theorem dX12_leastTries_234 : decode cX12_leastTries 234 = .ok (.iastore, 1) := by decide +kernel
theorem dX12_leastTries_235 : decode cX12_leastTries 235 = .ok (.iinc 6 1, 3) := by decide +kernel
theorem dX12_leastTries_238 : decode cX12_leastTries 238 = .ok (.goto (-98), 3) := by decide +kernel
theorem dX12_leastTries_241 : decode cX12_leastTries 241 = .ok (.iinc 4 1, 3) := by decide +kernel
theorem dX12_leastTries_244 : decode cX12_leastTries 244 = .ok (.goto (-122), 3) := by decide +kernel
theorem dX12_leastTries_247 : decode cX12_leastTries 247 = .ok (.iconst 0, 1) := by decide +kernel
theorem dX12_leastTries_248 : decode cX12_leastTries 248 = .ok (.istore 4, 2) := by decide +kernel
theorem dX12_leastTries_250 : decode cX12_leastTries 250 = .ok (.iload 4, 2) := by decide +kernel
theorem dX12_leastTries_252 : decode cX12_leastTries 252 = .ok (.sipush 3100, 3) := by decide +kernel
theorem dX12_leastTries_255 : decode cX12_leastTries 255 = .ok (.if_icmp .ge 23, 3) := by decide +kernel
theorem dX12_leastTries_258 : decode cX12_leastTries 258 = .ok (.aload_n 0, 1) := by decide +kernel
theorem dX12_leastTries_259 : decode cX12_leastTries 259 = .ok (.getfield 49, 3) := by decide +kernel
theorem dX12_leastTries_262 : decode cX12_leastTries 262 = .ok (.iload 4, 2) := by decide +kernel
theorem dX12_leastTries_264 : decode cX12_leastTries 264 = .ok (.aload_n 0, 1) := by decide +kernel
theorem dX12_leastTries_265 : decode cX12_leastTries 265 = .ok (.getfield 52, 3) := by decide +kernel
theorem dX12_leastTries_268 : decode cX12_leastTries 268 = .ok (.iload 4, 2) := by decide +kernel
theorem dX12_leastTries_270 : decode cX12_leastTries 270 = .ok (.iaload, 1) := by decide +kernel
theorem dX12_leastTries_271 : decode cX12_leastTries 271 = .ok (.iastore, 1) := by decide +kernel
theorem dX12_leastTries_272 : decode cX12_leastTries 272 = .ok (.iinc 4 1, 3) := by decide +kernel
theorem dX12_leastTries_275 : decode cX12_leastTries 275 = .ok (.goto (-25), 3) := by decide +kernel
theorem dX12_leastTries_278 : decode cX12_leastTries 278 = .ok (.iinc 3 1, 3) := by decide +kernel
theorem dX12_leastTries_281 : decode cX12_leastTries 281 = .ok (.goto (-198), 3) := by decide +kernel
theorem dX12_leastTries_284 : decode cX12_leastTries 284 = .ok (.iconst 0, 1) := by decide +kernel
theorem dX12_leastTries_285 : decode cX12_leastTries 285 = .ok (.istore_n 3, 1) := by decide +kernel
theorem dX12_leastTries_286 : decode cX12_leastTries 286 = .ok (.iload_n 3, 1) := by decide +kernel
theorem dX12_leastTries_287 : decode cX12_leastTries 287 = .ok (.bipush 31, 2) := by decide +kernel
theorem dX12_leastTries_289 : decode cX12_leastTries 289 = .ok (.if_icmp .ge 43, 3) := by decide +kernel
theorem dX12_leastTries_292 : decode cX12_leastTries 292 = .ok (.iconst 0, 1) := by decide +kernel
theorem dX12_leastTries_293 : decode cX12_leastTries 293 = .ok (.istore 4, 2) := by decide +kernel
theorem dX12_leastTries_295 : decode cX12_leastTries 295 = .ok (.iload 4, 2) := by decide +kernel
theorem dX12_leastTries_297 : decode cX12_leastTries 297 = .ok (.bipush 100, 2) := by decide +kernel
theorem dX12_leastTries_299 : decode cX12_leastTries 299 = .ok (.if_icmp .ge 27, 3) := by decide +kernel
theorem dX12_leastTries_302 : decode cX12_leastTries 302 = .ok (.aload_n 0, 1) := by decide +kernel
theorem dX12_leastTries_303 : decode cX12_leastTries 303 = .ok (.getfield 49, 3) := by decide +kernel
theorem dX12_leastTries_306 : decode cX12_leastTries 306 = .ok (.iload 4, 2) := by decide +kernel
theorem dX12_leastTries_308 : decode cX12_leastTries 308 = .ok (.bipush 31, 2) := by decide +kernel
theorem dX12_leastTries_310 : decode cX12_leastTries 310 = .ok (.imul, 1) := by decide +kernel
theorem dX12_leastTries_311 : decode cX12_leastTries 311 = .ok (.iload_n 3, 1) := by decide +kernel
theorem dX12_leastTries_312 : decode cX12_leastTries 312 = .ok (.iadd, 1) := by decide +kernel
theorem dX12_leastTries_313 : decode cX12_leastTries 313 = .ok (.iaload, 1) := by decide +kernel
theorem dX12_leastTries_314 : decode cX12_leastTries 314 = .ok (.iload_n 2, 1) := by decide +kernel
theorem dX12_leastTries_315 : decode cX12_leastTries 315 = .ok (.if_icmp .gt 5, 3) := by decide +kernel
theorem dX12_leastTries_318 : decode cX12_leastTries 318 = .ok (.iload_n 3, 1) := by decide +kernel
theorem dX12_leastTries_319 : decode cX12_leastTries 319 = .ok (.ireturn, 1) := by decide +kernel
theorem dX12_leastTries_320 : decode cX12_leastTries 320 = .ok (.iinc 4 1, 3) := by decide +kernel
theorem dX12_leastTries_323 : decode cX12_leastTries 323 = .ok (.goto (-28), 3) := by decide +kernel
theorem dX12_leastTries_326 : decode cX12_leastTries 326 = .ok (.iinc 3 1, 3) := by decide +kernel
theorem dX12_leastTries_329 : decode cX12_leastTries 329 = .ok (.goto (-43), 3) := by decide +kernel
theorem dX12_leastTries_332 : decode cX12_leastTries 332 = .ok (.bipush (-9), 2) := by decide +kernel
theorem dX12_leastTries_334 : decode cX12_leastTries 334 = .ok (.ireturn, 1) := by decide +kernel
theorem dX12_drink_0 : decode cX12_drink 0 = .ok (.aload_n 0, 1) := by decide +kernel
theorem dX12_drink_1 : decode cX12_drink 1 = .ok (.iload_n 1, 1) := by decide +kernel
theorem dX12_drink_2 : decode cX12_drink 2 = .ok (.invokevirtual 136, 3) := by decide +kernel
theorem dX12_drink_5 : decode cX12_drink 5 = .ok (.ifCond .ne 9, 3) := by decide +kernel
theorem dX12_drink_8 : decode cX12_drink 8 = .ok (.aload_n 0, 1) := by decide +kernel
theorem dX12_drink_9 : decode cX12_drink 9 = .ok (.iconst (-1), 1) := by decide +kernel
theorem dX12_drink_10 : decode cX12_drink 10 = .ok (.invokevirtual 56, 3) := by decide +kernel
theorem dX12_drink_13 : decode cX12_drink 13 = .ok (.ireturn, 1) := by decide +kernel
theorem dX12_drink_14 : decode cX12_drink 14 = .ok (.iload_n 2, 1) := by decide +kernel
theorem dX12_drink_15 : decode cX12_drink 15 = .ok (.iconst 0, 1) := by decide +kernel
theorem dX12_drink_16 : decode cX12_drink 16 = .ok (.iconst 1, 1) := by decide +kernel
theorem dX12_drink_17 : decode cX12_drink 17 = .ok (.invokestatic 62, 3) := by decide +kernel
theorem dX12_drink_20 : decode cX12_drink 20 = .ok (.ifCond .ne 10, 3) := by decide +kernel
theorem dX12_drink_23 : decode cX12_drink 23 = .ok (.aload_n 0, 1) := by decide +kernel
theorem dX12_drink_24 : decode cX12_drink 24 = .ok (.bipush (-2), 2) := by decide +kernel
theorem dX12_drink_26 : decode cX12_drink 26 = .ok (.invokevirtual 56, 3) := by decide +kernel
theorem dX12_drink_29 : decode cX12_drink 29 = .ok (.ireturn, 1) := by decide +kernel
theorem dX12_drink_30 : decode cX12_drink 30 = .ok (.bipush (-9), 2) := by decide +kernel
theorem dX12_drink_32 : decode cX12_drink 32 = .ok (.istore_n 3, 1) := by decide +kernel
theorem dX12_drink_33 : decode cX12_drink 33 = .ok (.aload_n 0, 1) := by decide +kernel
theorem dX12_drink_34 : decode cX12_drink 34 = .ok (.aload_n 0, 1) := by decide +kernel
theorem dX12_drink_35 : decode cX12_drink 35 = .ok (.getfield 9, 3) := by decide +kernel
theorem dX12_drink_38 : decode cX12_drink 38 = .ok (.iload_n 1, 1) := by decide +kernel
theorem dX12_drink_39 : decode cX12_drink 39 = .ok (.invokevirtual 156, 3) := by decide +kernel
theorem dX12_drink_42 : decode cX12_drink 42 = .ok (.istore 4, 2) := by decide +kernel
theorem dX12_drink_44 : decode cX12_drink 44 = .ok (.iconst 0, 1) := by decide +kernel
theorem dX12_drink_45 : decode cX12_drink 45 = .ok (.istore 5, 2) := by decide +kernel
theorem dX12_drink_47 : decode cX12_drink 47 = .ok (.iload 5, 2) := by decide +kernel
theorem dX12_drink_49 : decode cX12_drink 49 = .ok (.aload_n 0, 1) := by decide +kernel
theorem dX12_drink_50 : decode cX12_drink 50 = .ok (.getfield 9, 3) := by decide +kernel
theorem dX12_drink_53 : decode cX12_drink 53 = .ok (.iconst 0, 1) := by decide +kernel
theorem dX12_drink_54 : decode cX12_drink 54 = .ok (.iaload, 1) := by decide +kernel
theorem dX12_drink_55 : decode cX12_drink 55 = .ok (.if_icmp .ge 39, 3) := by decide +kernel
theorem dX12_drink_58 : decode cX12_drink 58 = .ok (.aload_n 0, 1) := by decide +kernel
theorem dX12_drink_59 : decode cX12_drink 59 = .ok (.aload_n 0, 1) := by decide +kernel
theorem dX12_drink_60 : decode cX12_drink 60 = .ok (.getfield 9, 3) := by decide +kernel
theorem dX12_drink_63 : decode cX12_drink 63 = .ok (.iload_n 1, 1) := by decide +kernel
theorem dX12_drink_64 : decode cX12_drink 64 = .ok (.iload 5, 2) := by decide +kernel
theorem dX12_drink_66 : decode cX12_drink 66 = .ok (.invokevirtual 102, 3) := by decide +kernel
theorem dX12_drink_69 : decode cX12_drink 69 = .ok (.istore 6, 2) := by decide +kernel
theorem dX12_drink_71 : decode cX12_drink 71 = .ok (.iload 6, 2) := by decide +kernel
theorem dX12_drink_73 : decode cX12_drink 73 = .ok (.iload 4, 2) := by decide +kernel
theorem dX12_drink_75 : decode cX12_drink 75 = .ok (.if_icmp .lt 6, 3) := by decide +kernel
theorem dX12_drink_78 : decode cX12_drink 78 = .ok (.goto 10, 3) := by decide +kernel
theorem dX12_drink_81 : decode cX12_drink 81 = .ok (.iload 5, 2) := by decide +kernel
theorem dX12_drink_83 : decode cX12_drink 83 = .ok (.istore_n 3, 1) := by decide +kernel
theorem dX12_drink_84 : decode cX12_drink 84 = .ok (.iload 6, 2) := by decide +kernel
theorem dX12_drink_86 : decode cX12_drink 86 = .ok (.istore 4, 2) := by decide +kernel
theorem dX12_drink_88 : decode cX12_drink 88 = .ok (.iinc 5 1, 3) := by decide +kernel
theorem dX12_drink_91 : decode cX12_drink 91 = .ok (.goto (-44), 3) := by decide +kernel
theorem dX12_drink_94 : decode cX12_drink 94 = .ok (.iload_n 3, 1) := by decide +kernel
theorem dX12_drink_95 : decode cX12_drink 95 = .ok (.ifCond .lt 7, 3) := by decide +kernel
theorem dX12_drink_98 : decode cX12_drink 98 = .ok (.iload_n 2, 1) := by decide +kernel
theorem dX12_drink_99 : decode cX12_drink 99 = .ok (.ifCond .ne 7, 3) := by decide +kernel
theorem dX12_drink_102 : decode cX12_drink 102 = .ok (.iload_n 3, 1) := by decide +kernel
theorem dX12_drink_103 : decode cX12_drink 103 = .ok (.goto 5, 3) := by decide +kernel
theorem dX12_drink_106 : decode cX12_drink 106 = .ok (.iload 4, 2) := by decide +kernel
theorem dX12_drink_108 : decode cX12_drink 108 = .ok (.ireturn, 1) := by decide +kernel
theorem dX12_finishWith_0 : decode cX12_finishWith 0 = .ok (.aload_n 0, 1) := by decide +kernel
theorem dX12_finishWith_1 : decode cX12_finishWith 1 = .ok (.getfield 9, 3) := by decide +kernel
theorem dX12_finishWith_4 : decode cX12_finishWith 4 = .ok (.aload_n 0, 1) := by decide +kernel
theorem dX12_finishWith_5 : decode cX12_finishWith 5 = .ok (.getfield 13, 3) := by decide +kernel
theorem dX12_finishWith_8 : decode cX12_finishWith 8 = .ok (.invokestatic 149, 3) := by decide +kernel
theorem dX12_finishWith_11 : decode cX12_finishWith 11 = .ok (.aload_n 0, 1) := by decide +kernel
theorem dX12_finishWith_12 : decode cX12_finishWith 12 = .ok (.getfield 13, 3) := by decide +kernel
theorem dX12_finishWith_15 : decode cX12_finishWith 15 = .ok (.iload_n 1, 1) := by decide +kernel
theorem dX12_finishWith_16 : decode cX12_finishWith 16 = .ok (.iload_n 2, 1) := by decide +kernel
theorem dX12_finishWith_17 : decode cX12_finishWith 17 = .ok (.invokestatic 70, 3) := by decide +kernel
theorem dX12_finishWith_20 : decode cX12_finishWith 20 = .ok (.bipush 9, 2) := by decide +kernel
theorem dX12_finishWith_22 : decode cX12_finishWith 22 = .ok (.aload_n 0, 1) := by decide +kernel
theorem dX12_finishWith_23 : decode cX12_finishWith 23 = .ok (.getfield 9, 3) := by decide +kernel
theorem dX12_finishWith_26 : decode cX12_finishWith 26 = .ok (.iload_n 1, 1) := by decide +kernel
theorem dX12_finishWith_27 : decode cX12_finishWith 27 = .ok (.iload_n 2, 1) := by decide +kernel
theorem dX12_finishWith_28 : decode cX12_finishWith 28 = .ok (.invokestatic 70, 3) := by decide +kernel
theorem dX12_finishWith_31 : decode cX12_finishWith 31 = .ok (.iaload, 1) := by decide +kernel
theorem dX12_finishWith_32 : decode cX12_finishWith 32 = .ok (.iload_n 3, 1) := by decide +kernel
theorem dX12_finishWith_33 : decode cX12_finishWith 33 = .ok (.iadd, 1) := by decide +kernel
theorem dX12_finishWith_34 : decode cX12_finishWith 34 = .ok (.invokestatic 88, 3) := by decide +kernel
theorem dX12_finishWith_37 : decode cX12_finishWith 37 = .ok (.iastore, 1) := by decide +kernel
theorem dX12_finishWith_38 : decode cX12_finishWith 38 = .ok (.aload_n 0, 1) := by decide +kernel
theorem dX12_finishWith_39 : decode cX12_finishWith 39 = .ok (.aload_n 0, 1) := by decide +kernel
theorem dX12_finishWith_40 : decode cX12_finishWith 40 = .ok (.getfield 13, 3) := by decide +kernel
theorem dX12_finishWith_43 : decode cX12_finishWith 43 = .ok (.iload_n 1, 1) := by decide +kernel
theorem dX12_finishWith_44 : decode cX12_finishWith 44 = .ok (.invokevirtual 156, 3) := by decide +kernel
theorem dX12_finishWith_47 : decode cX12_finishWith 47 = .ok (.ireturn, 1) := by decide +kernel
theorem dX12_train_0 : decode cX12_train 0 = .ok (.aload_n 0, 1) := by decide +kernel
theorem dX12_train_1 : decode cX12_train 1 = .ok (.iload_n 1, 1) := by decide +kernel
theorem dX12_train_2 : decode cX12_train 2 = .ok (.invokevirtual 136, 3) := by decide +kernel
theorem dX12_train_5 : decode cX12_train 5 = .ok (.ifCond .ne 9, 3) := by decide +kernel
theorem dX12_train_8 : decode cX12_train 8 = .ok (.aload_n 0, 1) := by decide +kernel
theorem dX12_train_9 : decode cX12_train 9 = .ok (.iconst (-1), 1) := by decide +kernel
theorem dX12_train_10 : decode cX12_train 10 = .ok (.invokevirtual 167, 3) := by decide +kernel
theorem dX12_train_13 : decode cX12_train 13 = .ok (.ireturn, 1) := by decide +kernel
theorem dX12_train_14 : decode cX12_train 14 = .ok (.iload_n 2, 1) := by decide +kernel
theorem dX12_train_15 : decode cX12_train 15 = .ok (.iconst 0, 1) := by decide +kernel
theorem dX12_train_16 : decode cX12_train 16 = .ok (.iconst 1, 1) := by decide +kernel
theorem dX12_train_17 : decode cX12_train 17 = .ok (.invokestatic 62, 3) := by decide +kernel
theorem dX12_train_20 : decode cX12_train 20 = .ok (.ifCond .ne 10, 3) := by decide +kernel
theorem dX12_train_23 : decode cX12_train 23 = .ok (.aload_n 0, 1) := by decide +kernel
theorem dX12_train_24 : decode cX12_train 24 = .ok (.bipush (-2), 2) := by decide +kernel
theorem dX12_train_26 : decode cX12_train 26 = .ok (.invokevirtual 167, 3) := by decide +kernel
theorem dX12_train_29 : decode cX12_train 29 = .ok (.ireturn, 1) := by decide +kernel
theorem dX12_train_30 : decode cX12_train 30 = .ok (.iconst 0, 1) := by decide +kernel
theorem dX12_train_31 : decode cX12_train 31 = .ok (.istore_n 3, 1) := by decide +kernel
theorem dX12_train_32 : decode cX12_train 32 = .ok (.iconst 1, 1) := by decide +kernel
theorem dX12_train_33 : decode cX12_train 33 = .ok (.istore 4, 2) := by decide +kernel
theorem dX12_train_35 : decode cX12_train 35 = .ok (.iload 4, 2) := by decide +kernel
theorem dX12_train_37 : decode cX12_train 37 = .ok (.iconst 3, 1) := by decide +kernel
theorem dX12_train_38 : decode cX12_train 38 = .ok (.if_icmp .ge 30, 3) := by decide +kernel
theorem dX12_train_41 : decode cX12_train 41 = .ok (.aload_n 0, 1) := by decide +kernel
theorem dX12_train_42 : decode cX12_train 42 = .ok (.iload_n 1, 1) := by decide +kernel
theorem dX12_train_43 : decode cX12_train 43 = .ok (.iload 4, 2) := by decide +kernel
theorem dX12_train_45 : decode cX12_train 45 = .ok (.iconst 1, 1) := by decide +kernel
theorem dX12_train_46 : decode cX12_train 46 = .ok (.invokevirtual 170, 3) := by decide +kernel
theorem dX12_train_49 : decode cX12_train 49 = .ok (.aload_n 0, 1) := by decide +kernel
theorem dX12_train_50 : decode cX12_train 50 = .ok (.iload_n 1, 1) := by decide +kernel
theorem dX12_train_51 : decode cX12_train 51 = .ok (.iload_n 3, 1) := by decide +kernel
theorem dX12_train_52 : decode cX12_train 52 = .ok (.iconst 1, 1) := by decide +kernel
theorem dX12_train_53 : decode cX12_train 53 = .ok (.invokevirtual 170, 3) := by decide +kernel
theorem dX12_train_56 : decode cX12_train 56 = .ok (.if_icmp .ge 6, 3) := by decide +kernel
theorem dX12_train_59 : decode cX12_train 59 = .ok (.iload 4, 2) := by decide +kernel
theorem dX12_train_61 : decode cX12_train 61 = .ok (.istore_n 3, 1) := by decide +kernel
theorem dX12_train_62 : decode cX12_train 62 = .ok (.iinc 4 1, 3) := by decide +kernel
theorem dX12_train_65 : decode cX12_train 65 = .ok (.goto (-30), 3) := by decide +kernel
theorem dX12_train_68 : decode cX12_train 68 = .ok (.iload_n 2, 1) := by decide +kernel
theorem dX12_train_69 : decode cX12_train 69 = .ok (.ifCond .ne 7, 3) := by decide +kernel
theorem dX12_train_72 : decode cX12_train 72 = .ok (.iload_n 3, 1) := by decide +kernel
theorem dX12_train_73 : decode cX12_train 73 = .ok (.goto 20, 3) := by decide +kernel
theorem dX12_train_76 : decode cX12_train 76 = .ok (.aload_n 0, 1) := by decide +kernel
theorem dX12_train_77 : decode cX12_train 77 = .ok (.aload_n 0, 1) := by decide +kernel
theorem dX12_train_78 : decode cX12_train 78 = .ok (.getfield 9, 3) := by decide +kernel
theorem dX12_train_81 : decode cX12_train 81 = .ok (.iload_n 1, 1) := by decide +kernel
theorem dX12_train_82 : decode cX12_train 82 = .ok (.invokevirtual 156, 3) := by decide +kernel
theorem dX12_train_85 : decode cX12_train 85 = .ok (.aload_n 0, 1) := by decide +kernel
theorem dX12_train_86 : decode cX12_train 86 = .ok (.iload_n 1, 1) := by decide +kernel
theorem dX12_train_87 : decode cX12_train 87 = .ok (.iload_n 3, 1) := by decide +kernel
theorem dX12_train_88 : decode cX12_train 88 = .ok (.iconst 1, 1) := by decide +kernel
theorem dX12_train_89 : decode cX12_train 89 = .ok (.invokevirtual 170, 3) := by decide +kernel
theorem dX12_train_92 : decode cX12_train 92 = .ok (.isub, 1) := by decide +kernel
theorem dX12_train_93 : decode cX12_train 93 = .ok (.ireturn, 1) := by decide +kernel
theorem dX12_weakest_0 : decode cX12_weakest 0 = .ok (.aload_n 0, 1) := by decide +kernel
theorem dX12_weakest_1 : decode cX12_weakest 1 = .ok (.iload_n 1, 1) := by decide +kernel
theorem dX12_weakest_2 : decode cX12_weakest 2 = .ok (.invokevirtual 136, 3) := by decide +kernel
theorem dX12_weakest_5 : decode cX12_weakest 5 = .ok (.ifCond .ne 9, 3) := by decide +kernel
theorem dX12_weakest_8 : decode cX12_weakest 8 = .ok (.aload_n 0, 1) := by decide +kernel
theorem dX12_weakest_9 : decode cX12_weakest 9 = .ok (.iconst (-1), 1) := by decide +kernel
theorem dX12_weakest_10 : decode cX12_weakest 10 = .ok (.invokevirtual 56, 3) := by decide +kernel
theorem dX12_weakest_13 : decode cX12_weakest 13 = .ok (.ireturn, 1) := by decide +kernel
theorem dX12_weakest_14 : decode cX12_weakest 14 = .ok (.aload_n 0, 1) := by decide +kernel
theorem dX12_weakest_15 : decode cX12_weakest 15 = .ok (.aload_n 0, 1) := by decide +kernel
theorem dX12_weakest_16 : decode cX12_weakest 16 = .ok (.getfield 9, 3) := by decide +kernel
theorem dX12_weakest_19 : decode cX12_weakest 19 = .ok (.iload_n 1, 1) := by decide +kernel
theorem dX12_weakest_20 : decode cX12_weakest 20 = .ok (.invokevirtual 156, 3) := by decide +kernel
theorem dX12_weakest_23 : decode cX12_weakest 23 = .ok (.istore_n 2, 1) := by decide +kernel
theorem dX12_weakest_24 : decode cX12_weakest 24 = .ok (.bipush (-9), 2) := by decide +kernel
theorem dX12_weakest_26 : decode cX12_weakest 26 = .ok (.istore_n 3, 1) := by decide +kernel
theorem dX12_weakest_27 : decode cX12_weakest 27 = .ok (.iconst 0, 1) := by decide +kernel
theorem dX12_weakest_28 : decode cX12_weakest 28 = .ok (.istore 4, 2) := by decide +kernel
theorem dX12_weakest_30 : decode cX12_weakest 30 = .ok (.iload 4, 2) := by decide +kernel
theorem dX12_weakest_32 : decode cX12_weakest 32 = .ok (.aload_n 0, 1) := by decide +kernel
theorem dX12_weakest_33 : decode cX12_weakest 33 = .ok (.getfield 9, 3) := by decide +kernel
theorem dX12_weakest_36 : decode cX12_weakest 36 = .ok (.iconst 0, 1) := by decide +kernel
theorem dX12_weakest_37 : decode cX12_weakest 37 = .ok (.iaload, 1) := by decide +kernel
theorem dX12_weakest_38 : decode cX12_weakest 38 = .ok (.if_icmp .ge 55, 3) := by decide +kernel
theorem dX12_weakest_41 : decode cX12_weakest 41 = .ok (.iload_n 3, 1) := by decide +kernel
theorem dX12_weakest_42 : decode cX12_weakest 42 = .ok (.ifCond .lt 42, 3) := by decide +kernel
theorem dX12_weakest_45 : decode cX12_weakest 45 = .ok (.aload_n 0, 1) := by decide +kernel
theorem dX12_weakest_46 : decode cX12_weakest 46 = .ok (.getfield 31, 3) := by decide +kernel
theorem dX12_weakest_49 : decode cX12_weakest 49 = .ok (.iload 4, 2) := by decide +kernel
theorem dX12_weakest_51 : decode cX12_weakest 51 = .ok (.iaload, 1) := by decide +kernel
theorem dX12_weakest_52 : decode cX12_weakest 52 = .ok (.aload_n 0, 1) := by decide +kernel
theorem dX12_weakest_53 : decode cX12_weakest 53 = .ok (.getfield 9, 3) := by decide +kernel
theorem dX12_weakest_56 : decode cX12_weakest 56 = .ok (.iload_n 3, 1) := by decide +kernel
theorem dX12_weakest_57 : decode cX12_weakest 57 = .ok (.iconst 2, 1) := by decide +kernel
theorem dX12_weakest_58 : decode cX12_weakest 58 = .ok (.invokestatic 66, 3) := by decide +kernel
theorem dX12_weakest_61 : decode cX12_weakest 61 = .ok (.iaload, 1) := by decide +kernel
theorem dX12_weakest_62 : decode cX12_weakest 62 = .ok (.imul, 1) := by decide +kernel
theorem dX12_weakest_63 : decode cX12_weakest 63 = .ok (.aload_n 0, 1) := by decide +kernel
theorem dX12_weakest_64 : decode cX12_weakest 64 = .ok (.getfield 31, 3) := by decide +kernel
theorem dX12_weakest_67 : decode cX12_weakest 67 = .ok (.iload_n 3, 1) := by decide +kernel
theorem dX12_weakest_68 : decode cX12_weakest 68 = .ok (.iaload, 1) := by decide +kernel
theorem dX12_weakest_69 : decode cX12_weakest 69 = .ok (.aload_n 0, 1) := by decide +kernel
theorem dX12_weakest_70 : decode cX12_weakest 70 = .ok (.getfield 9, 3) := by decide +kernel
theorem dX12_weakest_73 : decode cX12_weakest 73 = .ok (.iload 4, 2) := by decide +kernel
theorem dX12_weakest_75 : decode cX12_weakest 75 = .ok (.iconst 2, 1) := by decide +kernel
theorem dX12_weakest_76 : decode cX12_weakest 76 = .ok (.invokestatic 66, 3) := by decide +kernel
theorem dX12_weakest_79 : decode cX12_weakest 79 = .ok (.iaload, 1) := by decide +kernel
theorem dX12_weakest_80 : decode cX12_weakest 80 = .ok (.imul, 1) := by decide +kernel
theorem dX12_weakest_81 : decode cX12_weakest 81 = .ok (.if_icmp .le 6, 3) := by decide +kernel
theorem dX12_weakest_84 : decode cX12_weakest 84 = .ok (.iload 4, 2) := by decide +kernel
theorem dX12_weakest_86 : decode cX12_weakest 86 = .ok (.istore_n 3, 1) := by decide +kernel
theorem dX12_weakest_87 : decode cX12_weakest 87 = .ok (.iinc 4 1, 3) := by decide +kernel
theorem dX12_weakest_90 : decode cX12_weakest 90 = .ok (.goto (-60), 3) := by decide +kernel
theorem dX12_weakest_93 : decode cX12_weakest 93 = .ok (.iload_n 3, 1) := by decide +kernel
theorem dX12_weakest_94 : decode cX12_weakest 94 = .ok (.ireturn, 1) := by decide +kernel
theorem dX12_meadow_0 : decode cX12_meadow 0 = .ok (.aload_n 0, 1) := by decide +kernel
theorem dX12_meadow_1 : decode cX12_meadow 1 = .ok (.iload_n 1, 1) := by decide +kernel
theorem dX12_meadow_2 : decode cX12_meadow 2 = .ok (.invokevirtual 136, 3) := by decide +kernel
theorem dX12_meadow_5 : decode cX12_meadow 5 = .ok (.ifCond .ne 9, 3) := by decide +kernel
theorem dX12_meadow_8 : decode cX12_meadow 8 = .ok (.aload_n 0, 1) := by decide +kernel
theorem dX12_meadow_9 : decode cX12_meadow 9 = .ok (.iconst (-1), 1) := by decide +kernel
theorem dX12_meadow_10 : decode cX12_meadow 10 = .ok (.invokevirtual 56, 3) := by decide +kernel
theorem dX12_meadow_13 : decode cX12_meadow 13 = .ok (.ireturn, 1) := by decide +kernel
theorem dX12_meadow_14 : decode cX12_meadow 14 = .ok (.iload_n 2, 1) := by decide +kernel
theorem dX12_meadow_15 : decode cX12_meadow 15 = .ok (.iconst 0, 1) := by decide +kernel
theorem dX12_meadow_16 : decode cX12_meadow 16 = .ok (.iconst 1, 1) := by decide +kernel
theorem dX12_meadow_17 : decode cX12_meadow 17 = .ok (.invokestatic 62, 3) := by decide +kernel
theorem dX12_meadow_20 : decode cX12_meadow 20 = .ok (.ifCond .ne 10, 3) := by decide +kernel
theorem dX12_meadow_23 : decode cX12_meadow 23 = .ok (.aload_n 0, 1) := by decide +kernel
theorem dX12_meadow_24 : decode cX12_meadow 24 = .ok (.bipush (-2), 2) := by decide +kernel
theorem dX12_meadow_26 : decode cX12_meadow 26 = .ok (.invokevirtual 56, 3) := by decide +kernel
theorem dX12_meadow_29 : decode cX12_meadow 29 = .ok (.ireturn, 1) := by decide +kernel
theorem dX12_meadow_30 : decode cX12_meadow 30 = .ok (.aload_n 0, 1) := by decide +kernel
theorem dX12_meadow_31 : decode cX12_meadow 31 = .ok (.aload_n 0, 1) := by decide +kernel
theorem dX12_meadow_32 : decode cX12_meadow 32 = .ok (.getfield 9, 3) := by decide +kernel
theorem dX12_meadow_35 : decode cX12_meadow 35 = .ok (.iload_n 1, 1) := by decide +kernel
theorem dX12_meadow_36 : decode cX12_meadow 36 = .ok (.invokevirtual 156, 3) := by decide +kernel
theorem dX12_meadow_39 : decode cX12_meadow 39 = .ok (.istore_n 3, 1) := by decide +kernel
theorem dX12_meadow_40 : decode cX12_meadow 40 = .ok (.iconst 0, 1) := by decide +kernel
theorem dX12_meadow_41 : decode cX12_meadow 41 = .ok (.istore 4, 2) := by decide +kernel
theorem dX12_meadow_43 : decode cX12_meadow 43 = .ok (.iconst 0, 1) := by decide +kernel
theorem dX12_meadow_44 : decode cX12_meadow 44 = .ok (.istore 5, 2) := by decide +kernel
theorem dX12_meadow_46 : decode cX12_meadow 46 = .ok (.iload 5, 2) := by decide +kernel
theorem dX12_meadow_48 : decode cX12_meadow 48 = .ok (.aload_n 0, 1) := by decide +kernel
theorem dX12_meadow_49 : decode cX12_meadow 49 = .ok (.getfield 9, 3) := by decide +kernel
theorem dX12_meadow_52 : decode cX12_meadow 52 = .ok (.iconst 0, 1) := by decide +kernel
theorem dX12_meadow_53 : decode cX12_meadow 53 = .ok (.iaload, 1) := by decide +kernel
theorem dX12_meadow_54 : decode cX12_meadow 54 = .ok (.if_icmp .ge 41, 3) := by decide +kernel
theorem dX12_meadow_57 : decode cX12_meadow 57 = .ok (.iload 4, 2) := by decide +kernel
theorem dX12_meadow_59 : decode cX12_meadow 59 = .ok (.aload_n 0, 1) := by decide +kernel
theorem dX12_meadow_60 : decode cX12_meadow 60 = .ok (.getfield 9, 3) := by decide +kernel
theorem dX12_meadow_63 : decode cX12_meadow 63 = .ok (.iload 5, 2) := by decide +kernel
theorem dX12_meadow_65 : decode cX12_meadow 65 = .ok (.iconst 0, 1) := by decide +kernel
theorem dX12_meadow_66 : decode cX12_meadow 66 = .ok (.invokestatic 66, 3) := by decide +kernel
theorem dX12_meadow_69 : decode cX12_meadow 69 = .ok (.iaload, 1) := by decide +kernel
theorem dX12_meadow_70 : decode cX12_meadow 70 = .ok (.bipush 6, 2) := by decide +kernel
theorem dX12_meadow_72 : decode cX12_meadow 72 = .ok (.if_icmp .ne 13, 3) := by decide +kernel
theorem dX12_meadow_75 : decode cX12_meadow 75 = .ok (.aload_n 0, 1) := by decide +kernel
theorem dX12_meadow_76 : decode cX12_meadow 76 = .ok (.getfield 31, 3) := by decide +kernel
theorem dX12_meadow_79 : decode cX12_meadow 79 = .ok (.iload 5, 2) := by decide +kernel
theorem dX12_meadow_81 : decode cX12_meadow 81 = .ok (.iaload, 1) := by decide +kernel
theorem dX12_meadow_82 : decode cX12_meadow 82 = .ok (.goto 4, 3) := by decide +kernel
theorem dX12_meadow_85 : decode cX12_meadow 85 = .ok (.iconst 0, 1) := by decide +kernel
theorem dX12_meadow_86 : decode cX12_meadow 86 = .ok (.iadd, 1) := by decide +kernel
theorem dX12_meadow_87 : decode cX12_meadow 87 = .ok (.istore 4, 2) := by decide +kernel
theorem dX12_meadow_89 : decode cX12_meadow 89 = .ok (.iinc 5 1, 3) := by decide +kernel
theorem dX12_meadow_92 : decode cX12_meadow 92 = .ok (.goto (-46), 3) := by decide +kernel
theorem dX12_meadow_95 : decode cX12_meadow 95 = .ok (.iload_n 2, 1) := by decide +kernel
theorem dX12_meadow_96 : decode cX12_meadow 96 = .ok (.ifCond .ne 6, 3) := by decide +kernel
theorem dX12_meadow_99 : decode cX12_meadow 99 = .ok (.iload 4, 2) := by decide +kernel
theorem dX12_meadow_101 : decode cX12_meadow 101 = .ok (.ireturn, 1) := by decide +kernel
theorem dX12_meadow_102 : decode cX12_meadow 102 = .ok (.iload 4, 2) := by decide +kernel
theorem dX12_meadow_104 : decode cX12_meadow 104 = .ok (.iload_n 3, 1) := by decide +kernel
theorem dX12_meadow_105 : decode cX12_meadow 105 = .ok (.aload_n 0, 1) := by decide +kernel
theorem dX12_meadow_106 : decode cX12_meadow 106 = .ok (.iload_n 1, 1) := by decide +kernel
theorem dX12_meadow_107 : decode cX12_meadow 107 = .ok (.iconst 1, 1) := by decide +kernel
theorem dX12_meadow_108 : decode cX12_meadow 108 = .ok (.iconst 3, 1) := by decide +kernel
theorem dX12_meadow_109 : decode cX12_meadow 109 = .ok (.invokevirtual 170, 3) := by decide +kernel
theorem dX12_meadow_112 : decode cX12_meadow 112 = .ok (.isub, 1) := by decide +kernel
theorem dX12_meadow_113 : decode cX12_meadow 113 = .ok (.if_icmp .le 7, 3) := by decide +kernel
theorem dX12_meadow_116 : decode cX12_meadow 116 = .ok (.iconst 1, 1) := by decide +kernel
theorem dX12_meadow_117 : decode cX12_meadow 117 = .ok (.goto 4, 3) := by decide +kernel
theorem dX12_meadow_120 : decode cX12_meadow 120 = .ok (.iconst 0, 1) := by decide +kernel
theorem dX12_meadow_121 : decode cX12_meadow 121 = .ok (.ireturn, 1) := by decide +kernel
theorem dX12_leave_0 : decode cX12_leave 0 = .ok (.aload_n 0, 1) := by decide +kernel
theorem dX12_leave_1 : decode cX12_leave 1 = .ok (.iload_n 1, 1) := by decide +kernel
theorem dX12_leave_2 : decode cX12_leave 2 = .ok (.invokevirtual 136, 3) := by decide +kernel
theorem dX12_leave_5 : decode cX12_leave 5 = .ok (.ifCond .ne 9, 3) := by decide +kernel
theorem dX12_leave_8 : decode cX12_leave 8 = .ok (.aload_n 0, 1) := by decide +kernel
theorem dX12_leave_9 : decode cX12_leave 9 = .ok (.iconst (-1), 1) := by decide +kernel
theorem dX12_leave_10 : decode cX12_leave 10 = .ok (.invokevirtual 56, 3) := by decide +kernel
theorem dX12_leave_13 : decode cX12_leave 13 = .ok (.ireturn, 1) := by decide +kernel
theorem dX12_leave_14 : decode cX12_leave 14 = .ok (.iload_n 2, 1) := by decide +kernel
theorem dX12_leave_15 : decode cX12_leave 15 = .ok (.iconst 0, 1) := by decide +kernel
theorem dX12_leave_16 : decode cX12_leave 16 = .ok (.iconst 1, 1) := by decide +kernel
theorem dX12_leave_17 : decode cX12_leave 17 = .ok (.invokestatic 62, 3) := by decide +kernel
theorem dX12_leave_20 : decode cX12_leave 20 = .ok (.ifCond .ne 10, 3) := by decide +kernel
theorem dX12_leave_23 : decode cX12_leave 23 = .ok (.aload_n 0, 1) := by decide +kernel
theorem dX12_leave_24 : decode cX12_leave 24 = .ok (.bipush (-2), 2) := by decide +kernel
theorem dX12_leave_26 : decode cX12_leave 26 = .ok (.invokevirtual 56, 3) := by decide +kernel
theorem dX12_leave_29 : decode cX12_leave 29 = .ok (.ireturn, 1) := by decide +kernel
theorem dX12_leave_30 : decode cX12_leave 30 = .ok (.bipush (-9), 2) := by decide +kernel
theorem dX12_leave_32 : decode cX12_leave 32 = .ok (.istore_n 3, 1) := by decide +kernel
theorem dX12_leave_33 : decode cX12_leave 33 = .ok (.ldc 55, 2) := by decide +kernel
theorem dX12_leave_35 : decode cX12_leave 35 = .ok (.istore 4, 2) := by decide +kernel
theorem dX12_leave_37 : decode cX12_leave 37 = .ok (.iconst 0, 1) := by decide +kernel
theorem dX12_leave_38 : decode cX12_leave 38 = .ok (.istore 5, 2) := by decide +kernel
theorem dX12_leave_40 : decode cX12_leave 40 = .ok (.iload 5, 2) := by decide +kernel
theorem dX12_leave_42 : decode cX12_leave 42 = .ok (.aload_n 0, 1) := by decide +kernel
theorem dX12_leave_43 : decode cX12_leave 43 = .ok (.getfield 9, 3) := by decide +kernel
theorem dX12_leave_46 : decode cX12_leave 46 = .ok (.iconst 0, 1) := by decide +kernel
theorem dX12_leave_47 : decode cX12_leave 47 = .ok (.iaload, 1) := by decide +kernel
theorem dX12_leave_48 : decode cX12_leave 48 = .ok (.if_icmp .ge 144, 3) := by decide +kernel
theorem dX12_leave_51 : decode cX12_leave 51 = .ok (.aload_n 0, 1) := by decide +kernel
theorem dX12_leave_52 : decode cX12_leave 52 = .ok (.getfield 9, 3) := by decide +kernel
theorem dX12_leave_55 : decode cX12_leave 55 = .ok (.aload_n 0, 1) := by decide +kernel
theorem dX12_leave_56 : decode cX12_leave 56 = .ok (.getfield 13, 3) := by decide +kernel
theorem dX12_leave_59 : decode cX12_leave 59 = .ok (.invokestatic 149, 3) := by decide +kernel
theorem dX12_leave_62 : decode cX12_leave 62 = .ok (.aload_n 0, 1) := by decide +kernel
theorem dX12_leave_63 : decode cX12_leave 63 = .ok (.getfield 13, 3) := by decide +kernel
theorem dX12_leave_66 : decode cX12_leave 66 = .ok (.iconst 0, 1) := by decide +kernel
theorem dX12_leave_67 : decode cX12_leave 67 = .ok (.dup2, 1) := by decide +kernel
theorem dX12_leave_68 : decode cX12_leave 68 = .ok (.iaload, 1) := by decide +kernel
theorem dX12_leave_69 : decode cX12_leave 69 = .ok (.iconst 1, 1) := by decide +kernel
theorem dX12_leave_70 : decode cX12_leave 70 = .ok (.isub, 1) := by decide +kernel
theorem dX12_leave_71 : decode cX12_leave 71 = .ok (.iastore, 1) := by decide +kernel
theorem dX12_leave_72 : decode cX12_leave 72 = .ok (.iload 5, 2) := by decide +kernel
theorem dX12_leave_74 : decode cX12_leave 74 = .ok (.istore 6, 2) := by decide +kernel
theorem dX12_leave_76 : decode cX12_leave 76 = .ok (.iload 6, 2) := by decide +kernel
theorem dX12_leave_78 : decode cX12_leave 78 = .ok (.aload_n 0, 1) := by decide +kernel
theorem dX12_leave_79 : decode cX12_leave 79 = .ok (.getfield 13, 3) := by decide +kernel
theorem dX12_leave_82 : decode cX12_leave 82 = .ok (.iconst 0, 1) := by decide +kernel
theorem dX12_leave_83 : decode cX12_leave 83 = .ok (.iaload, 1) := by decide +kernel
theorem dX12_leave_84 : decode cX12_leave 84 = .ok (.if_icmp .ge 74, 3) := by decide +kernel
theorem dX12_leave_87 : decode cX12_leave 87 = .ok (.iconst 0, 1) := by decide +kernel
theorem dX12_leave_88 : decode cX12_leave 88 = .ok (.istore 7, 2) := by decide +kernel
theorem dX12_leave_90 : decode cX12_leave 90 = .ok (.iload 7, 2) := by decide +kernel
theorem dX12_leave_92 : decode cX12_leave 92 = .ok (.iconst 3, 1) := by decide +kernel
theorem dX12_leave_93 : decode cX12_leave 93 = .ok (.if_icmp .ge 35, 3) := by decide +kernel
theorem dX12_leave_96 : decode cX12_leave 96 = .ok (.aload_n 0, 1) := by decide +kernel
theorem dX12_leave_97 : decode cX12_leave 97 = .ok (.getfield 13, 3) := by decide +kernel
theorem dX12_leave_100 : decode cX12_leave 100 = .ok (.iload 6, 2) := by decide +kernel
theorem dX12_leave_102 : decode cX12_leave 102 = .ok (.iload 7, 2) := by decide +kernel
theorem dX12_leave_104 : decode cX12_leave 104 = .ok (.invokestatic 66, 3) := by decide +kernel
theorem dX12_leave_107 : decode cX12_leave 107 = .ok (.aload_n 0, 1) := by decide +kernel
theorem dX12_leave_108 : decode cX12_leave 108 = .ok (.getfield 9, 3) := by decide +kernel
theorem dX12_leave_111 : decode cX12_leave 111 = .ok (.iload 6, 2) := by decide +kernel
theorem dX12_leave_113 : decode cX12_leave 113 = .ok (.iconst 1, 1) := by decide +kernel
theorem dX12_leave_114 : decode cX12_leave 114 = .ok (.iadd, 1) := by decide +kernel
theorem dX12_leave_115 : decode cX12_leave 115 = .ok (.iload 7, 2) := by decide +kernel
theorem dX12_leave_117 : decode cX12_leave 117 = .ok (.invokestatic 66, 3) := by decide +kernel
theorem dX12_leave_120 : decode cX12_leave 120 = .ok (.iaload, 1) := by decide +kernel
theorem dX12_leave_121 : decode cX12_leave 121 = .ok (.iastore, 1) := by decide +kernel
theorem dX12_leave_122 : decode cX12_leave 122 = .ok (.iinc 7 1, 3) := by decide +kernel
theorem dX12_leave_125 : decode cX12_leave 125 = .ok (.goto (-35), 3) := by decide +kernel
theorem dX12_leave_128 : decode cX12_leave 128 = .ok (.aload_n 0, 1) := by decide +kernel
theorem dX12_leave_129 : decode cX12_leave 129 = .ok (.getfield 13, 3) := by decide +kernel
theorem dX12_leave_132 : decode cX12_leave 132 = .ok (.iload_n 1, 1) := by decide +kernel
theorem dX12_leave_133 : decode cX12_leave 133 = .ok (.iload 6, 2) := by decide +kernel
theorem dX12_leave_135 : decode cX12_leave 135 = .ok (.invokestatic 91, 3) := by decide +kernel
theorem dX12_leave_138 : decode cX12_leave 138 = .ok (.aload_n 0, 1) := by decide +kernel
theorem dX12_leave_139 : decode cX12_leave 139 = .ok (.getfield 9, 3) := by decide +kernel
theorem dX12_leave_142 : decode cX12_leave 142 = .ok (.iload_n 1, 1) := by decide +kernel
theorem dX12_leave_143 : decode cX12_leave 143 = .ok (.iload 6, 2) := by decide +kernel
theorem dX12_leave_145 : decode cX12_leave 145 = .ok (.iconst 1, 1) := by decide +kernel
theorem dX12_leave_146 : decode cX12_leave 146 = .ok (.iadd, 1) := by decide +kernel
theorem dX12_leave_147 : decode cX12_leave 147 = .ok (.invokestatic 91, 3) := by decide +kernel
theorem dX12_leave_150 : decode cX12_leave 150 = .ok (.iaload, 1) := by decide +kernel
theorem dX12_leave_151 : decode cX12_leave 151 = .ok (.iastore, 1) := by decide +kernel
theorem dX12_leave_152 : decode cX12_leave 152 = .ok (.iinc 6 1, 3) := by decide +kernel
theorem dX12_leave_155 : decode cX12_leave 155 = .ok (.goto (-79), 3) := by decide +kernel
theorem dX12_leave_158 : decode cX12_leave 158 = .ok (.aload_n 0, 1) := by decide +kernel
theorem dX12_leave_159 : decode cX12_leave 159 = .ok (.aload_n 0, 1) := by decide +kernel
theorem dX12_leave_160 : decode cX12_leave 160 = .ok (.getfield 13, 3) := by decide +kernel
theorem dX12_leave_163 : decode cX12_leave 163 = .ok (.iload_n 1, 1) := by decide +kernel
theorem dX12_leave_164 : decode cX12_leave 164 = .ok (.invokevirtual 156, 3) := by decide +kernel
theorem dX12_leave_167 : decode cX12_leave 167 = .ok (.istore 6, 2) := by decide +kernel
theorem dX12_leave_169 : decode cX12_leave 169 = .ok (.iload 6, 2) := by decide +kernel
theorem dX12_leave_171 : decode cX12_leave 171 = .ok (.iload 4, 2) := by decide +kernel
theorem dX12_leave_173 : decode cX12_leave 173 = .ok (.if_icmp .lt 6, 3) := by decide +kernel
theorem dX12_leave_176 : decode cX12_leave 176 = .ok (.goto 10, 3) := by decide +kernel
theorem dX12_leave_179 : decode cX12_leave 179 = .ok (.iload 5, 2) := by decide +kernel
theorem dX12_leave_181 : decode cX12_leave 181 = .ok (.istore_n 3, 1) := by decide +kernel
theorem dX12_leave_182 : decode cX12_leave 182 = .ok (.iload 6, 2) := by decide +kernel
theorem dX12_leave_184 : decode cX12_leave 184 = .ok (.istore 4, 2) := by decide +kernel
theorem dX12_leave_186 : decode cX12_leave 186 = .ok (.iinc 5 1, 3) := by decide +kernel
theorem dX12_leave_189 : decode cX12_leave 189 = .ok (.goto (-149), 3) := by decide +kernel
theorem dX12_leave_192 : decode cX12_leave 192 = .ok (.iload_n 3, 1) := by decide +kernel
theorem dX12_leave_193 : decode cX12_leave 193 = .ok (.ifCond .lt 7, 3) := by decide +kernel
theorem dX12_leave_196 : decode cX12_leave 196 = .ok (.iload_n 2, 1) := by decide +kernel
theorem dX12_leave_197 : decode cX12_leave 197 = .ok (.ifCond .ne 7, 3) := by decide +kernel
theorem dX12_leave_200 : decode cX12_leave 200 = .ok (.iload_n 3, 1) := by decide +kernel
theorem dX12_leave_201 : decode cX12_leave 201 = .ok (.goto 5, 3) := by decide +kernel
theorem dX12_leave_204 : decode cX12_leave 204 = .ok (.iload 4, 2) := by decide +kernel
theorem dX12_leave_206 : decode cX12_leave 206 = .ok (.ireturn, 1) := by decide +kernel
theorem dX12_order_0 : decode cX12_order 0 = .ok (.aload_n 0, 1) := by decide +kernel
theorem dX12_order_1 : decode cX12_order 1 = .ok (.iload_n 1, 1) := by decide +kernel
theorem dX12_order_2 : decode cX12_order 2 = .ok (.invokevirtual 136, 3) := by decide +kernel
theorem dX12_order_5 : decode cX12_order 5 = .ok (.ifCond .ne 9, 3) := by decide +kernel
theorem dX12_order_8 : decode cX12_order 8 = .ok (.aload_n 0, 1) := by decide +kernel
theorem dX12_order_9 : decode cX12_order 9 = .ok (.iconst (-1), 1) := by decide +kernel
theorem dX12_order_10 : decode cX12_order 10 = .ok (.invokevirtual 56, 3) := by decide +kernel
theorem dX12_order_13 : decode cX12_order 13 = .ok (.ireturn, 1) := by decide +kernel
theorem dX12_order_14 : decode cX12_order 14 = .ok (.bipush (-9), 2) := by decide +kernel
theorem dX12_order_16 : decode cX12_order 16 = .ok (.istore_n 2, 1) := by decide +kernel
theorem dX12_order_17 : decode cX12_order 17 = .ok (.aload_n 0, 1) := by decide +kernel
theorem dX12_order_18 : decode cX12_order 18 = .ok (.aload_n 0, 1) := by decide +kernel
theorem dX12_order_19 : decode cX12_order 19 = .ok (.getfield 9, 3) := by decide +kernel
theorem dX12_order_22 : decode cX12_order 22 = .ok (.iload_n 1, 1) := by decide +kernel
theorem dX12_order_23 : decode cX12_order 23 = .ok (.invokevirtual 156, 3) := by decide +kernel
theorem dX12_order_26 : decode cX12_order 26 = .ok (.istore_n 3, 1) := by decide +kernel
theorem dX12_order_27 : decode cX12_order 27 = .ok (.iconst 0, 1) := by decide +kernel
theorem dX12_order_28 : decode cX12_order 28 = .ok (.istore 4, 2) := by decide +kernel
theorem dX12_order_30 : decode cX12_order 30 = .ok (.iload 4, 2) := by decide +kernel
theorem dX12_order_32 : decode cX12_order 32 = .ok (.aload_n 0, 1) := by decide +kernel
theorem dX12_order_33 : decode cX12_order 33 = .ok (.getfield 9, 3) := by decide +kernel
theorem dX12_order_36 : decode cX12_order 36 = .ok (.iconst 0, 1) := by decide +kernel
theorem dX12_order_37 : decode cX12_order 37 = .ok (.iaload, 1) := by decide +kernel
theorem dX12_order_38 : decode cX12_order 38 = .ok (.if_icmp .ge 87, 3) := by decide +kernel
theorem dX12_order_41 : decode cX12_order 41 = .ok (.iload 4, 2) := by decide +kernel
theorem dX12_order_43 : decode cX12_order 43 = .ok (.iconst 1, 1) := by decide +kernel
theorem dX12_order_44 : decode cX12_order 44 = .ok (.iadd, 1) := by decide +kernel
theorem dX12_order_45 : decode cX12_order 45 = .ok (.istore 5, 2) := by decide +kernel
theorem dX12_order_47 : decode cX12_order 47 = .ok (.iload 5, 2) := by decide +kernel
theorem dX12_order_49 : decode cX12_order 49 = .ok (.aload_n 0, 1) := by decide +kernel
theorem dX12_order_50 : decode cX12_order 50 = .ok (.getfield 9, 3) := by decide +kernel
theorem dX12_order_53 : decode cX12_order 53 = .ok (.iconst 0, 1) := by decide +kernel
theorem dX12_order_54 : decode cX12_order 54 = .ok (.iaload, 1) := by decide +kernel
theorem dX12_order_55 : decode cX12_order 55 = .ok (.if_icmp .ge 64, 3) := by decide +kernel
theorem dX12_order_58 : decode cX12_order 58 = .ok (.aload_n 0, 1) := by decide +kernel
theorem dX12_order_59 : decode cX12_order 59 = .ok (.getfield 9, 3) := by decide +kernel
theorem dX12_order_62 : decode cX12_order 62 = .ok (.aload_n 0, 1) := by decide +kernel
theorem dX12_order_63 : decode cX12_order 63 = .ok (.getfield 13, 3) := by decide +kernel
theorem dX12_order_66 : decode cX12_order 66 = .ok (.invokestatic 149, 3) := by decide +kernel
theorem dX12_order_69 : decode cX12_order 69 = .ok (.aload_n 0, 1) := by decide +kernel
theorem dX12_order_70 : decode cX12_order 70 = .ok (.iload 4, 2) := by decide +kernel
theorem dX12_order_72 : decode cX12_order 72 = .ok (.iload 5, 2) := by decide +kernel
theorem dX12_order_74 : decode cX12_order 74 = .ok (.aload_n 0, 1) := by decide +kernel
theorem dX12_order_75 : decode cX12_order 75 = .ok (.getfield 13, 3) := by decide +kernel
theorem dX12_order_78 : decode cX12_order 78 = .ok (.invokevirtual 142, 3) := by decide +kernel
theorem dX12_order_81 : decode cX12_order 81 = .ok (.aload_n 0, 1) := by decide +kernel
theorem dX12_order_82 : decode cX12_order 82 = .ok (.aload_n 0, 1) := by decide +kernel
theorem dX12_order_83 : decode cX12_order 83 = .ok (.getfield 13, 3) := by decide +kernel
theorem dX12_order_86 : decode cX12_order 86 = .ok (.iload_n 1, 1) := by decide +kernel
theorem dX12_order_87 : decode cX12_order 87 = .ok (.invokevirtual 156, 3) := by decide +kernel
theorem dX12_order_90 : decode cX12_order 90 = .ok (.istore 6, 2) := by decide +kernel
theorem dX12_order_92 : decode cX12_order 92 = .ok (.iload 6, 2) := by decide +kernel
theorem dX12_order_94 : decode cX12_order 94 = .ok (.iload_n 3, 1) := by decide +kernel
theorem dX12_order_95 : decode cX12_order 95 = .ok (.if_icmp .lt 6, 3) := by decide +kernel
theorem dX12_order_98 : decode cX12_order 98 = .ok (.goto 15, 3) := by decide +kernel
theorem dX12_order_101 : decode cX12_order 101 = .ok (.bipush 10, 2) := by decide +kernel
theorem dX12_order_103 : decode cX12_order 103 = .ok (.iload 4, 2) := by decide +kernel
theorem dX12_order_105 : decode cX12_order 105 = .ok (.imul, 1) := by decide +kernel
theorem dX12_order_106 : decode cX12_order 106 = .ok (.iload 5, 2) := by decide +kernel
theorem dX12_order_108 : decode cX12_order 108 = .ok (.iadd, 1) := by decide +kernel
theorem dX12_order_109 : decode cX12_order 109 = .ok (.istore_n 2, 1) := by decide +kernel
theorem dX12_order_110 : decode cX12_order 110 = .ok (.iload 6, 2) := by decide +kernel
theorem dX12_order_112 : decode cX12_order 112 = .ok (.istore_n 3, 1) := by decide +kernel
theorem dX12_order_113 : decode cX12_order 113 = .ok (.iinc 5 1, 3) := by decide +kernel
theorem dX12_order_116 : decode cX12_order 116 = .ok (.goto (-69), 3) := by decide +kernel
theorem dX12_order_119 : decode cX12_order 119 = .ok (.iinc 4 1, 3) := by decide +kernel
theorem dX12_order_122 : decode cX12_order 122 = .ok (.goto (-92), 3) := by decide +kernel
theorem dX12_order_125 : decode cX12_order 125 = .ok (.iload_n 2, 1) := by decide +kernel
theorem dX12_order_126 : decode cX12_order 126 = .ok (.ireturn, 1) := by decide +kernel
theorem dX12_ridesMany_0 : decode cX12_ridesMany 0 = .ok (.iconst 0, 1) := by decide +kernel
theorem dX12_ridesMany_1 : decode cX12_ridesMany 1 = .ok (.istore_n 1, 1) := by decide +kernel
theorem dX12_ridesMany_2 : decode cX12_ridesMany 2 = .ok (.iconst 0, 1) := by decide +kernel
theorem dX12_ridesMany_3 : decode cX12_ridesMany 3 = .ok (.istore_n 2, 1) := by decide +kernel
theorem dX12_ridesMany_4 : decode cX12_ridesMany 4 = .ok (.iload_n 2, 1) := by decide +kernel
theorem dX12_ridesMany_5 : decode cX12_ridesMany 5 = .ok (.aload_n 0, 1) := by decide +kernel
theorem dX12_ridesMany_6 : decode cX12_ridesMany 6 = .ok (.getfield 9, 3) := by decide +kernel
theorem dX12_ridesMany_9 : decode cX12_ridesMany 9 = .ok (.iconst 0, 1) := by decide +kernel
theorem dX12_ridesMany_10 : decode cX12_ridesMany 10 = .ok (.iaload, 1) := by decide +kernel
theorem dX12_ridesMany_11 : decode cX12_ridesMany 11 = .ok (.if_icmp .ge 28, 3) := by decide +kernel
theorem dX12_ridesMany_14 : decode cX12_ridesMany 14 = .ok (.iload_n 1, 1) := by decide +kernel
theorem dX12_ridesMany_15 : decode cX12_ridesMany 15 = .ok (.aload_n 0, 1) := by decide +kernel
theorem dX12_ridesMany_16 : decode cX12_ridesMany 16 = .ok (.getfield 9, 3) := by decide +kernel
theorem dX12_ridesMany_19 : decode cX12_ridesMany 19 = .ok (.iload_n 2, 1) := by decide +kernel
theorem dX12_ridesMany_20 : decode cX12_ridesMany 20 = .ok (.invokestatic 73, 3) := by decide +kernel
theorem dX12_ridesMany_23 : decode cX12_ridesMany 23 = .ok (.ifCond .eq 7, 3) := by decide +kernel
theorem dX12_ridesMany_26 : decode cX12_ridesMany 26 = .ok (.iconst 1, 1) := by decide +kernel
theorem dX12_ridesMany_27 : decode cX12_ridesMany 27 = .ok (.goto 4, 3) := by decide +kernel
theorem dX12_ridesMany_30 : decode cX12_ridesMany 30 = .ok (.iconst 0, 1) := by decide +kernel
theorem dX12_ridesMany_31 : decode cX12_ridesMany 31 = .ok (.iadd, 1) := by decide +kernel
theorem dX12_ridesMany_32 : decode cX12_ridesMany 32 = .ok (.istore_n 1, 1) := by decide +kernel
theorem dX12_ridesMany_33 : decode cX12_ridesMany 33 = .ok (.iinc 2 1, 3) := by decide +kernel
theorem dX12_ridesMany_36 : decode cX12_ridesMany 36 = .ok (.goto (-32), 3) := by decide +kernel
theorem dX12_ridesMany_39 : decode cX12_ridesMany 39 = .ok (.iload_n 1, 1) := by decide +kernel
theorem dX12_ridesMany_40 : decode cX12_ridesMany 40 = .ok (.ireturn, 1) := by decide +kernel
theorem dX12_gcd_0 : decode cX12_gcd 0 = .ok (.lload_n 0, 1) := by decide +kernel
theorem dX12_gcd_1 : decode cX12_gcd 1 = .ok (.lstore 4, 2) := by decide +kernel
theorem dX12_gcd_3 : decode cX12_gcd 3 = .ok (.lload_n 2, 1) := by decide +kernel
theorem dX12_gcd_4 : decode cX12_gcd 4 = .ok (.lstore 6, 2) := by decide +kernel
theorem dX12_gcd_6 : decode cX12_gcd 6 = .ok (.lload 6, 2) := by decide +kernel
theorem dX12_gcd_8 : decode cX12_gcd 8 = .ok (.lconst 0, 1) := by decide +kernel
theorem dX12_gcd_9 : decode cX12_gcd 9 = .ok (.lcmp, 1) := by decide +kernel
theorem dX12_gcd_10 : decode cX12_gcd 10 = .ok (.ifCond .eq 21, 3) := by decide +kernel
theorem dX12_gcd_13 : decode cX12_gcd 13 = .ok (.lload 4, 2) := by decide +kernel
theorem dX12_gcd_15 : decode cX12_gcd 15 = .ok (.lload 6, 2) := by decide +kernel
theorem dX12_gcd_17 : decode cX12_gcd 17 = .ok (.lrem, 1) := by decide +kernel
theorem dX12_gcd_18 : decode cX12_gcd 18 = .ok (.lstore 8, 2) := by decide +kernel
theorem dX12_gcd_20 : decode cX12_gcd 20 = .ok (.lload 6, 2) := by decide +kernel
theorem dX12_gcd_22 : decode cX12_gcd 22 = .ok (.lstore 4, 2) := by decide +kernel
theorem dX12_gcd_24 : decode cX12_gcd 24 = .ok (.lload 8, 2) := by decide +kernel
theorem dX12_gcd_26 : decode cX12_gcd 26 = .ok (.lstore 6, 2) := by decide +kernel
theorem dX12_gcd_28 : decode cX12_gcd 28 = .ok (.goto (-22), 3) := by decide +kernel
theorem dX12_gcd_31 : decode cX12_gcd 31 = .ok (.lload 4, 2) := by decide +kernel
theorem dX12_gcd_33 : decode cX12_gcd 33 = .ok (.lreturn, 1) := by decide +kernel
theorem dX12_partOf_0 : decode cX12_partOf 0 = .ok (.lload_n 0, 1) := by decide +kernel
theorem dX12_partOf_1 : decode cX12_partOf 1 = .ok (.lconst 0, 1) := by decide +kernel
theorem dX12_partOf_2 : decode cX12_partOf 2 = .ok (.lcmp, 1) := by decide +kernel
theorem dX12_partOf_3 : decode cX12_partOf 3 = .ok (.ifCond .ne 7, 3) := by decide +kernel
theorem dX12_partOf_6 : decode cX12_partOf 6 = .ok (.iload 4, 2) := by decide +kernel
theorem dX12_partOf_8 : decode cX12_partOf 8 = .ok (.i2l, 1) := by decide +kernel
theorem dX12_partOf_9 : decode cX12_partOf 9 = .ok (.lreturn, 1) := by decide +kernel
theorem dX12_partOf_10 : decode cX12_partOf 10 = .ok (.iload 4, 2) := by decide +kernel
theorem dX12_partOf_12 : decode cX12_partOf 12 = .ok (.ifCond .ne 7, 3) := by decide +kernel
theorem dX12_partOf_15 : decode cX12_partOf 15 = .ok (.lload_n 0, 1) := by decide +kernel
theorem dX12_partOf_16 : decode cX12_partOf 16 = .ok (.goto 4, 3) := by decide +kernel
theorem dX12_partOf_19 : decode cX12_partOf 19 = .ok (.lload_n 2, 1) := by decide +kernel
theorem dX12_partOf_20 : decode cX12_partOf 20 = .ok (.lload_n 0, 1) := by decide +kernel
theorem dX12_partOf_21 : decode cX12_partOf 21 = .ok (.lload_n 2, 1) := by decide +kernel
theorem dX12_partOf_22 : decode cX12_partOf 22 = .ok (.invokestatic 174, 3) := by decide +kernel
theorem dX12_partOf_25 : decode cX12_partOf 25 = .ok (.ldiv, 1) := by decide +kernel
theorem dX12_partOf_26 : decode cX12_partOf 26 = .ok (.lreturn, 1) := by decide +kernel
theorem dX12_puncture_0 : decode cX12_puncture 0 = .ok (.aload_n 0, 1) := by decide +kernel
theorem dX12_puncture_1 : decode cX12_puncture 1 = .ok (.iload_n 1, 1) := by decide +kernel
theorem dX12_puncture_2 : decode cX12_puncture 2 = .ok (.invokevirtual 136, 3) := by decide +kernel
theorem dX12_puncture_5 : decode cX12_puncture 5 = .ok (.ifCond .ne 9, 3) := by decide +kernel
theorem dX12_puncture_8 : decode cX12_puncture 8 = .ok (.aload_n 0, 1) := by decide +kernel
theorem dX12_puncture_9 : decode cX12_puncture 9 = .ok (.iconst (-1), 1) := by decide +kernel
theorem dX12_puncture_10 : decode cX12_puncture 10 = .ok (.invokevirtual 178, 3) := by decide +kernel
theorem dX12_puncture_13 : decode cX12_puncture 13 = .ok (.lreturn, 1) := by decide +kernel
theorem dX12_puncture_14 : decode cX12_puncture 14 = .ok (.iload_n 2, 1) := by decide +kernel
theorem dX12_puncture_15 : decode cX12_puncture 15 = .ok (.iconst 2, 1) := by decide +kernel
theorem dX12_puncture_16 : decode cX12_puncture 16 = .ok (.if_icmp .lt 12, 3) := by decide +kernel
theorem dX12_puncture_19 : decode cX12_puncture 19 = .ok (.iload_n 3, 1) := by decide +kernel
theorem dX12_puncture_20 : decode cX12_puncture 20 = .ok (.ifCond .lt 8, 3) := by decide +kernel
theorem dX12_puncture_23 : decode cX12_puncture 23 = .ok (.iload 4, 2) := by decide +kernel
theorem dX12_puncture_25 : decode cX12_puncture 25 = .ok (.ifCond .ge 10, 3) := by decide +kernel
theorem dX12_puncture_28 : decode cX12_puncture 28 = .ok (.aload_n 0, 1) := by decide +kernel
theorem dX12_puncture_29 : decode cX12_puncture 29 = .ok (.bipush (-4), 2) := by decide +kernel
theorem dX12_puncture_31 : decode cX12_puncture 31 = .ok (.invokevirtual 178, 3) := by decide +kernel
theorem dX12_puncture_34 : decode cX12_puncture 34 = .ok (.lreturn, 1) := by decide +kernel
theorem dX12_puncture_35 : decode cX12_puncture 35 = .ok (.iload_n 2, 1) := by decide +kernel
theorem dX12_puncture_36 : decode cX12_puncture 36 = .ok (.bipush 20, 2) := by decide +kernel
theorem dX12_puncture_38 : decode cX12_puncture 38 = .ok (.if_icmp .gt 17, 3) := by decide +kernel
theorem dX12_puncture_41 : decode cX12_puncture 41 = .ok (.iload_n 3, 1) := by decide +kernel
theorem dX12_puncture_42 : decode cX12_puncture 42 = .ok (.bipush 99, 2) := by decide +kernel
theorem dX12_puncture_44 : decode cX12_puncture 44 = .ok (.if_icmp .gt 11, 3) := by decide +kernel
theorem dX12_puncture_47 : decode cX12_puncture 47 = .ok (.iload 4, 2) := by decide +kernel
theorem dX12_puncture_49 : decode cX12_puncture 49 = .ok (.sipush 999, 3) := by decide +kernel
theorem dX12_puncture_52 : decode cX12_puncture 52 = .ok (.if_icmp .le 10, 3) := by decide +kernel
theorem dX12_puncture_55 : decode cX12_puncture 55 = .ok (.aload_n 0, 1) := by decide +kernel
theorem dX12_puncture_56 : decode cX12_puncture 56 = .ok (.bipush (-6), 2) := by decide +kernel
theorem dX12_puncture_58 : decode cX12_puncture 58 = .ok (.invokevirtual 178, 3) := by decide +kernel
theorem dX12_puncture_61 : decode cX12_puncture 61 = .ok (.lreturn, 1) := by decide +kernel
theorem dX12_puncture_62 : decode cX12_puncture 62 = .ok (.iload 5, 2) := by decide +kernel
theorem dX12_puncture_64 : decode cX12_puncture 64 = .ok (.iconst 0, 1) := by decide +kernel
theorem dX12_puncture_65 : decode cX12_puncture 65 = .ok (.iconst 1, 1) := by decide +kernel
theorem dX12_puncture_66 : decode cX12_puncture 66 = .ok (.invokestatic 62, 3) := by decide +kernel
theorem dX12_puncture_69 : decode cX12_puncture 69 = .ok (.ifCond .ne 10, 3) := by decide +kernel
theorem dX12_puncture_72 : decode cX12_puncture 72 = .ok (.aload_n 0, 1) := by decide +kernel
theorem dX12_puncture_73 : decode cX12_puncture 73 = .ok (.bipush (-2), 2) := by decide +kernel
theorem dX12_puncture_75 : decode cX12_puncture 75 = .ok (.invokevirtual 178, 3) := by decide +kernel
theorem dX12_puncture_78 : decode cX12_puncture 78 = .ok (.lreturn, 1) := by decide +kernel
theorem dX12_puncture_79 : decode cX12_puncture 79 = .ok (.aload_n 0, 1) := by decide +kernel
theorem dX12_puncture_80 : decode cX12_puncture 80 = .ok (.aload_n 0, 1) := by decide +kernel
theorem dX12_puncture_81 : decode cX12_puncture 81 = .ok (.getfield 9, 3) := by decide +kernel
theorem dX12_puncture_84 : decode cX12_puncture 84 = .ok (.iload_n 1, 1) := by decide +kernel
theorem dX12_puncture_85 : decode cX12_puncture 85 = .ok (.invokevirtual 156, 3) := by decide +kernel
theorem dX12_puncture_88 : decode cX12_puncture 88 = .ok (.istore 6, 2) := by decide +kernel
theorem dX12_puncture_90 : decode cX12_puncture 90 = .ok (.aload_n 0, 1) := by decide +kernel
theorem dX12_puncture_91 : decode cX12_puncture 91 = .ok (.invokevirtual 182, 3) := by decide +kernel
theorem dX12_puncture_94 : decode cX12_puncture 94 = .ok (.istore 7, 2) := by decide +kernel
theorem dX12_puncture_96 : decode cX12_puncture 96 = .ok (.lconst 0, 1) := by decide +kernel
theorem dX12_puncture_97 : decode cX12_puncture 97 = .ok (.lstore 8, 2) := by decide +kernel
theorem dX12_puncture_99 : decode cX12_puncture 99 = .ok (.lconst 1, 1) := by decide +kernel
theorem dX12_puncture_100 : decode cX12_puncture 100 = .ok (.lstore 10, 2) := by decide +kernel
theorem dX12_puncture_102 : decode cX12_puncture 102 = .ok (.iconst 0, 1) := by decide +kernel
theorem dX12_puncture_103 : decode cX12_puncture 103 = .ok (.istore 12, 2) := by decide +kernel
theorem dX12_puncture_105 : decode cX12_puncture 105 = .ok (.iload 12, 2) := by decide +kernel
theorem dX12_puncture_107 : decode cX12_puncture 107 = .ok (.iload 7, 2) := by decide +kernel
theorem dX12_puncture_109 : decode cX12_puncture 109 = .ok (.if_icmp .ge 16, 3) := by decide +kernel
theorem dX12_puncture_112 : decode cX12_puncture 112 = .ok (.lload 10, 2) := by decide +kernel
theorem dX12_puncture_114 : decode cX12_puncture 114 = .ok (.iload_n 2, 1) := by decide +kernel
theorem dX12_puncture_115 : decode cX12_puncture 115 = .ok (.i2l, 1) := by decide +kernel
theorem dX12_puncture_116 : decode cX12_puncture 116 = .ok (.lmul, 1) := by decide +kernel
theorem dX12_puncture_117 : decode cX12_puncture 117 = .ok (.lstore 10, 2) := by decide +kernel
theorem dX12_puncture_119 : decode cX12_puncture 119 = .ok (.iinc 12 1, 3) := by decide +kernel
theorem dX12_puncture_122 : decode cX12_puncture 122 = .ok (.goto (-17), 3) := by decide +kernel
theorem dX12_puncture_125 : decode cX12_puncture 125 = .ok (.iconst 0, 1) := by decide +kernel
theorem dX12_puncture_126 : decode cX12_puncture 126 = .ok (.istore 12, 2) := by decide +kernel
theorem dX12_puncture_128 : decode cX12_puncture 128 = .ok (.iload 12, 2) := by decide +kernel
theorem dX12_puncture_130 : decode cX12_puncture 130 = .ok (.iconst 1, 1) := by decide +kernel
theorem dX12_puncture_131 : decode cX12_puncture 131 = .ok (.iload 7, 2) := by decide +kernel
theorem dX12_puncture_133 : decode cX12_puncture 133 = .ok (.ishl, 1) := by decide +kernel
theorem dX12_puncture_134 : decode cX12_puncture 134 = .ok (.if_icmp .ge 103, 3) := by decide +kernel
theorem dX12_puncture_137 : decode cX12_puncture 137 = .ok (.lconst 1, 1) := by decide +kernel
theorem dX12_puncture_138 : decode cX12_puncture 138 = .ok (.lstore 13, 2) := by decide +kernel
theorem dX12_puncture_140 : decode cX12_puncture 140 = .ok (.iconst 0, 1) := by decide +kernel
theorem dX12_puncture_141 : decode cX12_puncture 141 = .ok (.istore 15, 2) := by decide +kernel
theorem dX12_puncture_143 : decode cX12_puncture 143 = .ok (.iconst 0, 1) := by decide +kernel
theorem dX12_puncture_144 : decode cX12_puncture 144 = .ok (.istore 16, 2) := by decide +kernel
theorem dX12_puncture_146 : decode cX12_puncture 146 = .ok (.iload 16, 2) := by decide +kernel
theorem dX12_puncture_148 : decode cX12_puncture 148 = .ok (.iload 7, 2) := by decide +kernel
theorem dX12_puncture_150 : decode cX12_puncture 150 = .ok (.if_icmp .ge 60, 3) := by decide +kernel
theorem dX12_puncture_153 : decode cX12_puncture 153 = .ok (.iload 12, 2) := by decide +kernel
theorem dX12_puncture_155 : decode cX12_puncture 155 = .ok (.iload 16, 2) := by decide +kernel
theorem dX12_puncture_157 : decode cX12_puncture 157 = .ok (.ishr, 1) := by decide +kernel
theorem dX12_puncture_158 : decode cX12_puncture 158 = .ok (.iconst 1, 1) := by decide +kernel
theorem dX12_puncture_159 : decode cX12_puncture 159 = .ok (.iand, 1) := by decide +kernel
theorem dX12_puncture_160 : decode cX12_puncture 160 = .ok (.iconst 1, 1) := by decide +kernel
theorem dX12_puncture_161 : decode cX12_puncture 161 = .ok (.if_icmp .ne 7, 3) := by decide +kernel
theorem dX12_puncture_164 : decode cX12_puncture 164 = .ok (.iconst 1, 1) := by decide +kernel
theorem dX12_puncture_165 : decode cX12_puncture 165 = .ok (.goto 4, 3) := by decide +kernel
theorem dX12_puncture_168 : decode cX12_puncture 168 = .ok (.iconst 0, 1) := by decide +kernel
theorem dX12_puncture_169 : decode cX12_puncture 169 = .ok (.istore 17, 2) := by decide +kernel
theorem dX12_puncture_171 : decode cX12_puncture 171 = .ok (.lload 13, 2) := by decide +kernel
theorem dX12_puncture_173 : decode cX12_puncture 173 = .ok (.iload 17, 2) := by decide +kernel
theorem dX12_puncture_175 : decode cX12_puncture 175 = .ok (.ifCond .eq 7, 3) := by decide +kernel
theorem dX12_puncture_178 : decode cX12_puncture 178 = .ok (.lconst 1, 1) := by decide +kernel
theorem dX12_puncture_179 : decode cX12_puncture 179 = .ok (.goto 7, 3) := by decide +kernel
theorem dX12_puncture_182 : decode cX12_puncture 182 = .ok (.iload_n 2, 1) := by decide +kernel
theorem dX12_puncture_183 : decode cX12_puncture 183 = .ok (.iconst 1, 1) := by decide +kernel
theorem dX12_puncture_184 : decode cX12_puncture 184 = .ok (.isub, 1) := by decide +kernel
theorem dX12_puncture_185 : decode cX12_puncture 185 = .ok (.i2l, 1) := by decide +kernel
theorem dX12_puncture_186 : decode cX12_puncture 186 = .ok (.lmul, 1) := by decide +kernel
theorem dX12_puncture_187 : decode cX12_puncture 187 = .ok (.lstore 13, 2) := by decide +kernel
theorem dX12_puncture_189 : decode cX12_puncture 189 = .ok (.iload 15, 2) := by decide +kernel
theorem dX12_puncture_191 : decode cX12_puncture 191 = .ok (.iload 17, 2) := by decide +kernel
theorem dX12_puncture_193 : decode cX12_puncture 193 = .ok (.ifCond .eq 7, 3) := by decide +kernel
theorem dX12_puncture_196 : decode cX12_puncture 196 = .ok (.iload_n 3, 1) := by decide +kernel
theorem dX12_puncture_197 : decode cX12_puncture 197 = .ok (.goto 4, 3) := by decide +kernel
theorem dX12_puncture_200 : decode cX12_puncture 200 = .ok (.iconst 0, 1) := by decide +kernel
theorem dX12_puncture_201 : decode cX12_puncture 201 = .ok (.iadd, 1) := by decide +kernel
theorem dX12_puncture_202 : decode cX12_puncture 202 = .ok (.istore 15, 2) := by decide +kernel
theorem dX12_puncture_204 : decode cX12_puncture 204 = .ok (.iinc 16 1, 3) := by decide +kernel
theorem dX12_puncture_207 : decode cX12_puncture 207 = .ok (.goto (-61), 3) := by decide +kernel
theorem dX12_puncture_210 : decode cX12_puncture 210 = .ok (.lload 8, 2) := by decide +kernel
theorem dX12_puncture_212 : decode cX12_puncture 212 = .ok (.iload 6, 2) := by decide +kernel
theorem dX12_puncture_214 : decode cX12_puncture 214 = .ok (.iload 15, 2) := by decide +kernel
theorem dX12_puncture_216 : decode cX12_puncture 216 = .ok (.iadd, 1) := by decide +kernel
theorem dX12_puncture_217 : decode cX12_puncture 217 = .ok (.iload 4, 2) := by decide +kernel
theorem dX12_puncture_219 : decode cX12_puncture 219 = .ok (.if_icmp .gt 8, 3) := by decide +kernel
theorem dX12_puncture_222 : decode cX12_puncture 222 = .ok (.lload 13, 2) := by decide +kernel
theorem dX12_puncture_224 : decode cX12_puncture 224 = .ok (.goto 4, 3) := by decide +kernel
theorem dX12_puncture_227 : decode cX12_puncture 227 = .ok (.lconst 0, 1) := by decide +kernel
theorem dX12_puncture_228 : decode cX12_puncture 228 = .ok (.ladd, 1) := by decide +kernel
theorem dX12_puncture_229 : decode cX12_puncture 229 = .ok (.lstore 8, 2) := by decide +kernel
theorem dX12_puncture_231 : decode cX12_puncture 231 = .ok (.iinc 12 1, 3) := by decide +kernel
theorem dX12_puncture_234 : decode cX12_puncture 234 = .ok (.goto (-106), 3) := by decide +kernel
theorem dX12_puncture_237 : decode cX12_puncture 237 = .ok (.lload 8, 2) := by decide +kernel
theorem dX12_puncture_239 : decode cX12_puncture 239 = .ok (.lload 10, 2) := by decide +kernel
theorem dX12_puncture_241 : decode cX12_puncture 241 = .ok (.iload 5, 2) := by decide +kernel
theorem dX12_puncture_243 : decode cX12_puncture 243 = .ok (.invokestatic 185, 3) := by decide +kernel
theorem dX12_puncture_246 : decode cX12_puncture 246 = .ok (.lreturn, 1) := by decide +kernel
theorem dX12_mean_0 : decode cX12_mean 0 = .ok (.aload_n 0, 1) := by decide +kernel
theorem dX12_mean_1 : decode cX12_mean 1 = .ok (.iload_n 1, 1) := by decide +kernel
theorem dX12_mean_2 : decode cX12_mean 2 = .ok (.invokevirtual 136, 3) := by decide +kernel
theorem dX12_mean_5 : decode cX12_mean 5 = .ok (.ifCond .ne 9, 3) := by decide +kernel
theorem dX12_mean_8 : decode cX12_mean 8 = .ok (.aload_n 0, 1) := by decide +kernel
theorem dX12_mean_9 : decode cX12_mean 9 = .ok (.iconst (-1), 1) := by decide +kernel
theorem dX12_mean_10 : decode cX12_mean 10 = .ok (.invokevirtual 178, 3) := by decide +kernel
theorem dX12_mean_13 : decode cX12_mean 13 = .ok (.lreturn, 1) := by decide +kernel
theorem dX12_mean_14 : decode cX12_mean 14 = .ok (.iload_n 2, 1) := by decide +kernel
theorem dX12_mean_15 : decode cX12_mean 15 = .ok (.iconst 2, 1) := by decide +kernel
theorem dX12_mean_16 : decode cX12_mean 16 = .ok (.if_icmp .lt 7, 3) := by decide +kernel
theorem dX12_mean_19 : decode cX12_mean 19 = .ok (.iload_n 3, 1) := by decide +kernel
theorem dX12_mean_20 : decode cX12_mean 20 = .ok (.ifCond .ge 10, 3) := by decide +kernel
theorem dX12_mean_23 : decode cX12_mean 23 = .ok (.aload_n 0, 1) := by decide +kernel
theorem dX12_mean_24 : decode cX12_mean 24 = .ok (.bipush (-4), 2) := by decide +kernel
theorem dX12_mean_26 : decode cX12_mean 26 = .ok (.invokevirtual 178, 3) := by decide +kernel
theorem dX12_mean_29 : decode cX12_mean 29 = .ok (.lreturn, 1) := by decide +kernel
theorem dX12_mean_30 : decode cX12_mean 30 = .ok (.iload_n 2, 1) := by decide +kernel
theorem dX12_mean_31 : decode cX12_mean 31 = .ok (.bipush 20, 2) := by decide +kernel
theorem dX12_mean_33 : decode cX12_mean 33 = .ok (.if_icmp .gt 9, 3) := by decide +kernel
theorem dX12_mean_36 : decode cX12_mean 36 = .ok (.iload_n 3, 1) := by decide +kernel
theorem dX12_mean_37 : decode cX12_mean 37 = .ok (.bipush 99, 2) := by decide +kernel
theorem dX12_mean_39 : decode cX12_mean 39 = .ok (.if_icmp .le 10, 3) := by decide +kernel
theorem dX12_mean_42 : decode cX12_mean 42 = .ok (.aload_n 0, 1) := by decide +kernel
theorem dX12_mean_43 : decode cX12_mean 43 = .ok (.bipush (-6), 2) := by decide +kernel
theorem dX12_mean_45 : decode cX12_mean 45 = .ok (.invokevirtual 178, 3) := by decide +kernel
theorem dX12_mean_48 : decode cX12_mean 48 = .ok (.lreturn, 1) := by decide +kernel
theorem dX12_mean_49 : decode cX12_mean 49 = .ok (.iload 4, 2) := by decide +kernel
theorem dX12_mean_51 : decode cX12_mean 51 = .ok (.iconst 0, 1) := by decide +kernel
theorem dX12_mean_52 : decode cX12_mean 52 = .ok (.iconst 1, 1) := by decide +kernel
theorem dX12_mean_53 : decode cX12_mean 53 = .ok (.invokestatic 62, 3) := by decide +kernel
theorem dX12_mean_56 : decode cX12_mean 56 = .ok (.ifCond .ne 10, 3) := by decide +kernel
theorem dX12_mean_59 : decode cX12_mean 59 = .ok (.aload_n 0, 1) := by decide +kernel
theorem dX12_mean_60 : decode cX12_mean 60 = .ok (.bipush (-2), 2) := by decide +kernel
theorem dX12_mean_62 : decode cX12_mean 62 = .ok (.invokevirtual 178, 3) := by decide +kernel
theorem dX12_mean_65 : decode cX12_mean 65 = .ok (.lreturn, 1) := by decide +kernel
theorem dX12_mean_66 : decode cX12_mean 66 = .ok (.aload_n 0, 1) := by decide +kernel
theorem dX12_mean_67 : decode cX12_mean 67 = .ok (.aload_n 0, 1) := by decide +kernel
theorem dX12_mean_68 : decode cX12_mean 68 = .ok (.getfield 9, 3) := by decide +kernel
theorem dX12_mean_71 : decode cX12_mean 71 = .ok (.iload_n 1, 1) := by decide +kernel
theorem dX12_mean_72 : decode cX12_mean 72 = .ok (.invokevirtual 156, 3) := by decide +kernel
theorem dX12_mean_75 : decode cX12_mean 75 = .ok (.i2l, 1) := by decide +kernel
theorem dX12_mean_76 : decode cX12_mean 76 = .ok (.iload_n 2, 1) := by decide +kernel
theorem dX12_mean_77 : decode cX12_mean 77 = .ok (.i2l, 1) := by decide +kernel
theorem dX12_mean_78 : decode cX12_mean 78 = .ok (.lmul, 1) := by decide +kernel
theorem dX12_mean_79 : decode cX12_mean 79 = .ok (.aload_n 0, 1) := by decide +kernel
theorem dX12_mean_80 : decode cX12_mean 80 = .ok (.invokevirtual 182, 3) := by decide +kernel
theorem dX12_mean_83 : decode cX12_mean 83 = .ok (.iload_n 3, 1) := by decide +kernel
theorem dX12_mean_84 : decode cX12_mean 84 = .ok (.imul, 1) := by decide +kernel
theorem dX12_mean_85 : decode cX12_mean 85 = .ok (.i2l, 1) := by decide +kernel
theorem dX12_mean_86 : decode cX12_mean 86 = .ok (.ladd, 1) := by decide +kernel
theorem dX12_mean_87 : decode cX12_mean 87 = .ok (.iload_n 2, 1) := by decide +kernel
theorem dX12_mean_88 : decode cX12_mean 88 = .ok (.i2l, 1) := by decide +kernel
theorem dX12_mean_89 : decode cX12_mean 89 = .ok (.iload 4, 2) := by decide +kernel
theorem dX12_mean_91 : decode cX12_mean 91 = .ok (.invokestatic 185, 3) := by decide +kernel
theorem dX12_mean_94 : decode cX12_mean 94 = .ok (.lreturn, 1) := by decide +kernel
theorem dX12_tube_0 : decode cX12_tube 0 = .ok (.aload_n 0, 1) := by decide +kernel
theorem dX12_tube_1 : decode cX12_tube 1 = .ok (.iload_n 1, 1) := by decide +kernel
theorem dX12_tube_2 : decode cX12_tube 2 = .ok (.invokevirtual 136, 3) := by decide +kernel
theorem dX12_tube_5 : decode cX12_tube 5 = .ok (.ifCond .ne 9, 3) := by decide +kernel
theorem dX12_tube_8 : decode cX12_tube 8 = .ok (.aload_n 0, 1) := by decide +kernel
theorem dX12_tube_9 : decode cX12_tube 9 = .ok (.iconst (-1), 1) := by decide +kernel
theorem dX12_tube_10 : decode cX12_tube 10 = .ok (.invokevirtual 56, 3) := by decide +kernel
theorem dX12_tube_13 : decode cX12_tube 13 = .ok (.ireturn, 1) := by decide +kernel
theorem dX12_tube_14 : decode cX12_tube 14 = .ok (.iload_n 2, 1) := by decide +kernel
theorem dX12_tube_15 : decode cX12_tube 15 = .ok (.iconst 2, 1) := by decide +kernel
theorem dX12_tube_16 : decode cX12_tube 16 = .ok (.if_icmp .lt 7, 3) := by decide +kernel
theorem dX12_tube_19 : decode cX12_tube 19 = .ok (.iload_n 3, 1) := by decide +kernel
theorem dX12_tube_20 : decode cX12_tube 20 = .ok (.ifCond .ge 10, 3) := by decide +kernel
theorem dX12_tube_23 : decode cX12_tube 23 = .ok (.aload_n 0, 1) := by decide +kernel
theorem dX12_tube_24 : decode cX12_tube 24 = .ok (.bipush (-4), 2) := by decide +kernel
theorem dX12_tube_26 : decode cX12_tube 26 = .ok (.invokevirtual 56, 3) := by decide +kernel
theorem dX12_tube_29 : decode cX12_tube 29 = .ok (.ireturn, 1) := by decide +kernel
theorem dX12_tube_30 : decode cX12_tube 30 = .ok (.iload_n 2, 1) := by decide +kernel
theorem dX12_tube_31 : decode cX12_tube 31 = .ok (.bipush 20, 2) := by decide +kernel
theorem dX12_tube_33 : decode cX12_tube 33 = .ok (.if_icmp .gt 9, 3) := by decide +kernel
theorem dX12_tube_36 : decode cX12_tube 36 = .ok (.iload_n 3, 1) := by decide +kernel
theorem dX12_tube_37 : decode cX12_tube 37 = .ok (.bipush 99, 2) := by decide +kernel
theorem dX12_tube_39 : decode cX12_tube 39 = .ok (.if_icmp .le 10, 3) := by decide +kernel
theorem dX12_tube_42 : decode cX12_tube 42 = .ok (.aload_n 0, 1) := by decide +kernel
theorem dX12_tube_43 : decode cX12_tube 43 = .ok (.bipush (-6), 2) := by decide +kernel
theorem dX12_tube_45 : decode cX12_tube 45 = .ok (.invokevirtual 56, 3) := by decide +kernel
theorem dX12_tube_48 : decode cX12_tube 48 = .ok (.ireturn, 1) := by decide +kernel
theorem dX12_tube_49 : decode cX12_tube 49 = .ok (.bipush 60, 2) := by decide +kernel
theorem dX12_tube_51 : decode cX12_tube 51 = .ok (.iload_n 2, 1) := by decide +kernel
theorem dX12_tube_52 : decode cX12_tube 52 = .ok (.imul, 1) := by decide +kernel
theorem dX12_tube_53 : decode cX12_tube 53 = .ok (.bipush 10, 2) := by decide +kernel
theorem dX12_tube_55 : decode cX12_tube 55 = .ok (.aload_n 0, 1) := by decide +kernel
theorem dX12_tube_56 : decode cX12_tube 56 = .ok (.invokevirtual 182, 3) := by decide +kernel
theorem dX12_tube_59 : decode cX12_tube 59 = .ok (.imul, 1) := by decide +kernel
theorem dX12_tube_60 : decode cX12_tube 60 = .ok (.iadd, 1) := by decide +kernel
theorem dX12_tube_61 : decode cX12_tube 61 = .ok (.iload_n 3, 1) := by decide +kernel
theorem dX12_tube_62 : decode cX12_tube 62 = .ok (.aload_n 0, 1) := by decide +kernel
theorem dX12_tube_63 : decode cX12_tube 63 = .ok (.invokevirtual 182, 3) := by decide +kernel
theorem dX12_tube_66 : decode cX12_tube 66 = .ok (.imul, 1) := by decide +kernel
theorem dX12_tube_67 : decode cX12_tube 67 = .ok (.if_icmp .ge 7, 3) := by decide +kernel
theorem dX12_tube_70 : decode cX12_tube 70 = .ok (.iconst 1, 1) := by decide +kernel
theorem dX12_tube_71 : decode cX12_tube 71 = .ok (.goto 4, 3) := by decide +kernel
theorem dX12_tube_74 : decode cX12_tube 74 = .ok (.iconst 0, 1) := by decide +kernel
theorem dX12_tube_75 : decode cX12_tube 75 = .ok (.ireturn, 1) := by decide +kernel
theorem dX12_draw_0 : decode cX12_draw 0 = .ok (.aload_n 0, 1) := by decide +kernel
theorem dX12_draw_1 : decode cX12_draw 1 = .ok (.iload_n 1, 1) := by decide +kernel
theorem dX12_draw_2 : decode cX12_draw 2 = .ok (.invokevirtual 136, 3) := by decide +kernel
theorem dX12_draw_5 : decode cX12_draw 5 = .ok (.ifCond .ne 9, 3) := by decide +kernel
theorem dX12_draw_8 : decode cX12_draw 8 = .ok (.aload_n 0, 1) := by decide +kernel
theorem dX12_draw_9 : decode cX12_draw 9 = .ok (.iconst (-1), 1) := by decide +kernel
theorem dX12_draw_10 : decode cX12_draw 10 = .ok (.invokevirtual 56, 3) := by decide +kernel
theorem dX12_draw_13 : decode cX12_draw 13 = .ok (.ireturn, 1) := by decide +kernel
theorem dX12_draw_14 : decode cX12_draw 14 = .ok (.iload_n 2, 1) := by decide +kernel
theorem dX12_draw_15 : decode cX12_draw 15 = .ok (.iconst 0, 1) := by decide +kernel
theorem dX12_draw_16 : decode cX12_draw 16 = .ok (.iconst 1, 1) := by decide +kernel
theorem dX12_draw_17 : decode cX12_draw 17 = .ok (.invokestatic 62, 3) := by decide +kernel
theorem dX12_draw_20 : decode cX12_draw 20 = .ok (.ifCond .ne 10, 3) := by decide +kernel
theorem dX12_draw_23 : decode cX12_draw 23 = .ok (.aload_n 0, 1) := by decide +kernel
theorem dX12_draw_24 : decode cX12_draw 24 = .ok (.bipush (-2), 2) := by decide +kernel
theorem dX12_draw_26 : decode cX12_draw 26 = .ok (.invokevirtual 56, 3) := by decide +kernel
theorem dX12_draw_29 : decode cX12_draw 29 = .ok (.ireturn, 1) := by decide +kernel
theorem dX12_draw_30 : decode cX12_draw 30 = .ok (.aload_n 0, 1) := by decide +kernel
theorem dX12_draw_31 : decode cX12_draw 31 = .ok (.aload_n 0, 1) := by decide +kernel
theorem dX12_draw_32 : decode cX12_draw 32 = .ok (.getfield 9, 3) := by decide +kernel
theorem dX12_draw_35 : decode cX12_draw 35 = .ok (.iload_n 1, 1) := by decide +kernel
theorem dX12_draw_36 : decode cX12_draw 36 = .ok (.invokevirtual 156, 3) := by decide +kernel
theorem dX12_draw_39 : decode cX12_draw 39 = .ok (.istore_n 3, 1) := by decide +kernel
theorem dX12_draw_40 : decode cX12_draw 40 = .ok (.bipush (-9), 2) := by decide +kernel
theorem dX12_draw_42 : decode cX12_draw 42 = .ok (.istore 4, 2) := by decide +kernel
theorem dX12_draw_44 : decode cX12_draw 44 = .ok (.ldc 55, 2) := by decide +kernel
theorem dX12_draw_46 : decode cX12_draw 46 = .ok (.istore 5, 2) := by decide +kernel
theorem dX12_draw_48 : decode cX12_draw 48 = .ok (.iconst 0, 1) := by decide +kernel
theorem dX12_draw_49 : decode cX12_draw 49 = .ok (.istore 6, 2) := by decide +kernel
theorem dX12_draw_51 : decode cX12_draw 51 = .ok (.iload 6, 2) := by decide +kernel
theorem dX12_draw_53 : decode cX12_draw 53 = .ok (.aload_n 0, 1) := by decide +kernel
theorem dX12_draw_54 : decode cX12_draw 54 = .ok (.getfield 9, 3) := by decide +kernel
theorem dX12_draw_57 : decode cX12_draw 57 = .ok (.iconst 1, 1) := by decide +kernel
theorem dX12_draw_58 : decode cX12_draw 58 = .ok (.iaload, 1) := by decide +kernel
theorem dX12_draw_59 : decode cX12_draw 59 = .ok (.if_icmp .ge 46, 3) := by decide +kernel
theorem dX12_draw_62 : decode cX12_draw 62 = .ok (.iload_n 3, 1) := by decide +kernel
theorem dX12_draw_63 : decode cX12_draw 63 = .ok (.aload_n 0, 1) := by decide +kernel
theorem dX12_draw_64 : decode cX12_draw 64 = .ok (.aload_n 0, 1) := by decide +kernel
theorem dX12_draw_65 : decode cX12_draw 65 = .ok (.getfield 9, 3) := by decide +kernel
theorem dX12_draw_68 : decode cX12_draw 68 = .ok (.iload 6, 2) := by decide +kernel
theorem dX12_draw_70 : decode cX12_draw 70 = .ok (.invokevirtual 156, 3) := by decide +kernel
theorem dX12_draw_73 : decode cX12_draw 73 = .ok (.isub, 1) := by decide +kernel
theorem dX12_draw_74 : decode cX12_draw 74 = .ok (.istore 7, 2) := by decide +kernel
theorem dX12_draw_76 : decode cX12_draw 76 = .ok (.iload 7, 2) := by decide +kernel
theorem dX12_draw_78 : decode cX12_draw 78 = .ok (.ifCond .le 21, 3) := by decide +kernel
theorem dX12_draw_81 : decode cX12_draw 81 = .ok (.iload 7, 2) := by decide +kernel
theorem dX12_draw_83 : decode cX12_draw 83 = .ok (.iload 5, 2) := by decide +kernel
theorem dX12_draw_85 : decode cX12_draw 85 = .ok (.if_icmp .lt 6, 3) := by decide +kernel
theorem dX12_draw_88 : decode cX12_draw 88 = .ok (.goto 11, 3) := by decide +kernel
theorem dX12_draw_91 : decode cX12_draw 91 = .ok (.iload 6, 2) := by decide +kernel
theorem dX12_draw_93 : decode cX12_draw 93 = .ok (.istore 4, 2) := by decide +kernel
theorem dX12_draw_95 : decode cX12_draw 95 = .ok (.iload 7, 2) := by decide +kernel
theorem dX12_draw_97 : decode cX12_draw 97 = .ok (.istore 5, 2) := by decide +kernel
theorem dX12_draw_99 : decode cX12_draw 99 = .ok (.iinc 6 1, 3) := by decide +kernel
theorem dX12_draw_102 : decode cX12_draw 102 = .ok (.goto (-51), 3) := by decide +kernel
theorem dX12_draw_105 : decode cX12_draw 105 = .ok (.iload 4, 2) := by decide +kernel
theorem dX12_draw_107 : decode cX12_draw 107 = .ok (.ifCond .lt 7, 3) := by decide +kernel
theorem dX12_draw_110 : decode cX12_draw 110 = .ok (.iload_n 2, 1) := by decide +kernel
theorem dX12_draw_111 : decode cX12_draw 111 = .ok (.ifCond .ne 8, 3) := by decide +kernel
theorem dX12_draw_114 : decode cX12_draw 114 = .ok (.iload 4, 2) := by decide +kernel
theorem dX12_draw_116 : decode cX12_draw 116 = .ok (.goto 5, 3) := by decide +kernel
theorem dX12_draw_119 : decode cX12_draw 119 = .ok (.iload 5, 2) := by decide +kernel
theorem dX12_draw_121 : decode cX12_draw 121 = .ok (.ireturn, 1) := by decide +kernel
theorem dX12_finishAgainst_0 : decode cX12_finishAgainst 0 = .ok (.aload_n 0, 1) := by decide +kernel
theorem dX12_finishAgainst_1 : decode cX12_finishAgainst 1 = .ok (.getfield 9, 3) := by decide +kernel
theorem dX12_finishAgainst_4 : decode cX12_finishAgainst 4 = .ok (.aload_n 0, 1) := by decide +kernel
theorem dX12_finishAgainst_5 : decode cX12_finishAgainst 5 = .ok (.getfield 13, 3) := by decide +kernel
theorem dX12_finishAgainst_8 : decode cX12_finishAgainst 8 = .ok (.invokestatic 149, 3) := by decide +kernel
theorem dX12_finishAgainst_11 : decode cX12_finishAgainst 11 = .ok (.aload_n 0, 1) := by decide +kernel
theorem dX12_finishAgainst_12 : decode cX12_finishAgainst 12 = .ok (.getfield 13, 3) := by decide +kernel
theorem dX12_finishAgainst_15 : decode cX12_finishAgainst 15 = .ok (.iload_n 1, 1) := by decide +kernel
theorem dX12_finishAgainst_16 : decode cX12_finishAgainst 16 = .ok (.iload_n 2, 1) := by decide +kernel
theorem dX12_finishAgainst_17 : decode cX12_finishAgainst 17 = .ok (.invokestatic 91, 3) := by decide +kernel
theorem dX12_finishAgainst_20 : decode cX12_finishAgainst 20 = .ok (.iload_n 3, 1) := by decide +kernel
theorem dX12_finishAgainst_21 : decode cX12_finishAgainst 21 = .ok (.iastore, 1) := by decide +kernel
theorem dX12_finishAgainst_22 : decode cX12_finishAgainst 22 = .ok (.aload_n 0, 1) := by decide +kernel
theorem dX12_finishAgainst_23 : decode cX12_finishAgainst 23 = .ok (.aload_n 0, 1) := by decide +kernel
theorem dX12_finishAgainst_24 : decode cX12_finishAgainst 24 = .ok (.getfield 13, 3) := by decide +kernel
theorem dX12_finishAgainst_27 : decode cX12_finishAgainst 27 = .ok (.iload_n 1, 1) := by decide +kernel
theorem dX12_finishAgainst_28 : decode cX12_finishAgainst 28 = .ok (.invokevirtual 156, 3) := by decide +kernel
theorem dX12_finishAgainst_31 : decode cX12_finishAgainst 31 = .ok (.iload_n 3, 1) := by decide +kernel
theorem dX12_finishAgainst_32 : decode cX12_finishAgainst 32 = .ok (.iload 4, 2) := by decide +kernel
theorem dX12_finishAgainst_34 : decode cX12_finishAgainst 34 = .ok (.if_icmp .ge 7, 3) := by decide +kernel
theorem dX12_finishAgainst_37 : decode cX12_finishAgainst 37 = .ok (.iconst 5, 1) := by decide +kernel
theorem dX12_finishAgainst_38 : decode cX12_finishAgainst 38 = .ok (.goto 4, 3) := by decide +kernel
theorem dX12_finishAgainst_41 : decode cX12_finishAgainst 41 = .ok (.iconst 0, 1) := by decide +kernel
theorem dX12_finishAgainst_42 : decode cX12_finishAgainst 42 = .ok (.iadd, 1) := by decide +kernel
theorem dX12_finishAgainst_43 : decode cX12_finishAgainst 43 = .ok (.ireturn, 1) := by decide +kernel
theorem dX12_two_0 : decode cX12_two 0 = .ok (.aload_n 0, 1) := by decide +kernel
theorem dX12_two_1 : decode cX12_two 1 = .ok (.iload_n 1, 1) := by decide +kernel
theorem dX12_two_2 : decode cX12_two 2 = .ok (.invokevirtual 136, 3) := by decide +kernel
theorem dX12_two_5 : decode cX12_two 5 = .ok (.ifCond .eq 24, 3) := by decide +kernel
theorem dX12_two_8 : decode cX12_two 8 = .ok (.aload_n 0, 1) := by decide +kernel
theorem dX12_two_9 : decode cX12_two 9 = .ok (.iload_n 2, 1) := by decide +kernel
theorem dX12_two_10 : decode cX12_two 10 = .ok (.invokevirtual 136, 3) := by decide +kernel
theorem dX12_two_13 : decode cX12_two 13 = .ok (.ifCond .eq 16, 3) := by decide +kernel
theorem dX12_two_16 : decode cX12_two 16 = .ok (.iload_n 1, 1) := by decide +kernel
theorem dX12_two_17 : decode cX12_two 17 = .ok (.iload_n 2, 1) := by decide +kernel
theorem dX12_two_18 : decode cX12_two 18 = .ok (.if_icmp .eq 11, 3) := by decide +kernel
theorem dX12_two_21 : decode cX12_two 21 = .ok (.aload_n 0, 1) := by decide +kernel
theorem dX12_two_22 : decode cX12_two 22 = .ok (.iload_n 3, 1) := by decide +kernel
theorem dX12_two_23 : decode cX12_two 23 = .ok (.invokevirtual 139, 3) := by decide +kernel
theorem dX12_two_26 : decode cX12_two 26 = .ok (.ifCond .ne 9, 3) := by decide +kernel
theorem dX12_two_29 : decode cX12_two 29 = .ok (.aload_n 0, 1) := by decide +kernel
theorem dX12_two_30 : decode cX12_two 30 = .ok (.iconst (-1), 1) := by decide +kernel
theorem dX12_two_31 : decode cX12_two 31 = .ok (.invokevirtual 56, 3) := by decide +kernel
theorem dX12_two_34 : decode cX12_two 34 = .ok (.ireturn, 1) := by decide +kernel
theorem dX12_two_35 : decode cX12_two 35 = .ok (.iconst 0, 1) := by decide +kernel
theorem dX12_two_36 : decode cX12_two 36 = .ok (.istore 4, 2) := by decide +kernel
theorem dX12_two_38 : decode cX12_two 38 = .ok (.iload 4, 2) := by decide +kernel
theorem dX12_two_40 : decode cX12_two 40 = .ok (.iconst 4, 1) := by decide +kernel
theorem dX12_two_41 : decode cX12_two 41 = .ok (.if_icmp .ge 112, 3) := by decide +kernel
theorem dX12_two_44 : decode cX12_two 44 = .ok (.iconst 0, 1) := by decide +kernel
theorem dX12_two_45 : decode cX12_two 45 = .ok (.istore 5, 2) := by decide +kernel
theorem dX12_two_47 : decode cX12_two 47 = .ok (.iload 5, 2) := by decide +kernel
theorem dX12_two_49 : decode cX12_two 49 = .ok (.iconst 4, 1) := by decide +kernel
theorem dX12_two_50 : decode cX12_two 50 = .ok (.if_icmp .ge 97, 3) := by decide +kernel
theorem dX12_two_53 : decode cX12_two 53 = .ok (.iconst 1, 1) := by decide +kernel
theorem dX12_two_54 : decode cX12_two 54 = .ok (.istore 6, 2) := by decide +kernel
theorem dX12_two_56 : decode cX12_two 56 = .ok (.iconst 0, 1) := by decide +kernel
theorem dX12_two_57 : decode cX12_two 57 = .ok (.istore 7, 2) := by decide +kernel
theorem dX12_two_59 : decode cX12_two 59 = .ok (.iload 7, 2) := by decide +kernel
theorem dX12_two_61 : decode cX12_two 61 = .ok (.iconst 4, 1) := by decide +kernel
theorem dX12_two_62 : decode cX12_two 62 = .ok (.if_icmp .ge 65, 3) := by decide +kernel
theorem dX12_two_65 : decode cX12_two 65 = .ok (.iload 6, 2) := by decide +kernel
theorem dX12_two_67 : decode cX12_two 67 = .ok (.aload_n 0, 1) := by decide +kernel
theorem dX12_two_68 : decode cX12_two 68 = .ok (.iload_n 1, 1) := by decide +kernel
theorem dX12_two_69 : decode cX12_two 69 = .ok (.iload_n 3, 1) := by decide +kernel
theorem dX12_two_70 : decode cX12_two 70 = .ok (.iload 7, 2) := by decide +kernel
theorem dX12_two_72 : decode cX12_two 72 = .ok (.iload 5, 2) := by decide +kernel
theorem dX12_two_74 : decode cX12_two 74 = .ok (.invokevirtual 189, 3) := by decide +kernel
theorem dX12_two_77 : decode cX12_two 77 = .ok (.aload_n 0, 1) := by decide +kernel
theorem dX12_two_78 : decode cX12_two 78 = .ok (.iload_n 1, 1) := by decide +kernel
theorem dX12_two_79 : decode cX12_two 79 = .ok (.iload_n 3, 1) := by decide +kernel
theorem dX12_two_80 : decode cX12_two 80 = .ok (.iload 4, 2) := by decide +kernel
theorem dX12_two_82 : decode cX12_two 82 = .ok (.iload 5, 2) := by decide +kernel
theorem dX12_two_84 : decode cX12_two 84 = .ok (.invokevirtual 189, 3) := by decide +kernel
theorem dX12_two_87 : decode cX12_two 87 = .ok (.if_icmp .lt 30, 3) := by decide +kernel
theorem dX12_two_90 : decode cX12_two 90 = .ok (.aload_n 0, 1) := by decide +kernel
theorem dX12_two_91 : decode cX12_two 91 = .ok (.iload_n 2, 1) := by decide +kernel
theorem dX12_two_92 : decode cX12_two 92 = .ok (.iload_n 3, 1) := by decide +kernel
theorem dX12_two_93 : decode cX12_two 93 = .ok (.iload 7, 2) := by decide +kernel
theorem dX12_two_95 : decode cX12_two 95 = .ok (.iload 4, 2) := by decide +kernel
theorem dX12_two_97 : decode cX12_two 97 = .ok (.invokevirtual 189, 3) := by decide +kernel
theorem dX12_two_100 : decode cX12_two 100 = .ok (.aload_n 0, 1) := by decide +kernel
theorem dX12_two_101 : decode cX12_two 101 = .ok (.iload_n 2, 1) := by decide +kernel
theorem dX12_two_102 : decode cX12_two 102 = .ok (.iload_n 3, 1) := by decide +kernel
theorem dX12_two_103 : decode cX12_two 103 = .ok (.iload 5, 2) := by decide +kernel
theorem dX12_two_105 : decode cX12_two 105 = .ok (.iload 4, 2) := by decide +kernel
theorem dX12_two_107 : decode cX12_two 107 = .ok (.invokevirtual 189, 3) := by decide +kernel
theorem dX12_two_110 : decode cX12_two 110 = .ok (.if_icmp .lt 7, 3) := by decide +kernel
theorem dX12_two_113 : decode cX12_two 113 = .ok (.iconst 1, 1) := by decide +kernel
theorem dX12_two_114 : decode cX12_two 114 = .ok (.goto 4, 3) := by decide +kernel
theorem dX12_two_117 : decode cX12_two 117 = .ok (.iconst 0, 1) := by decide +kernel
theorem dX12_two_118 : decode cX12_two 118 = .ok (.iand, 1) := by decide +kernel
theorem dX12_two_119 : decode cX12_two 119 = .ok (.istore 6, 2) := by decide +kernel
theorem dX12_two_121 : decode cX12_two 121 = .ok (.iinc 7 1, 3) := by decide +kernel
theorem dX12_two_124 : decode cX12_two 124 = .ok (.goto (-65), 3) := by decide +kernel
theorem dX12_two_127 : decode cX12_two 127 = .ok (.iload 6, 2) := by decide +kernel
theorem dX12_two_129 : decode cX12_two 129 = .ok (.ifCond .eq 12, 3) := by decide +kernel
theorem dX12_two_132 : decode cX12_two 132 = .ok (.bipush 10, 2) := by decide +kernel
theorem dX12_two_134 : decode cX12_two 134 = .ok (.iload 4, 2) := by decide +kernel
theorem dX12_two_136 : decode cX12_two 136 = .ok (.imul, 1) := by decide +kernel
theorem dX12_two_137 : decode cX12_two 137 = .ok (.iload 5, 2) := by decide +kernel
theorem dX12_two_139 : decode cX12_two 139 = .ok (.iadd, 1) := by decide +kernel
theorem dX12_two_140 : decode cX12_two 140 = .ok (.ireturn, 1) := by decide +kernel
theorem dX12_two_141 : decode cX12_two 141 = .ok (.iinc 5 1, 3) := by decide +kernel
theorem dX12_two_144 : decode cX12_two 144 = .ok (.goto (-97), 3) := by decide +kernel
theorem dX12_two_147 : decode cX12_two 147 = .ok (.iinc 4 1, 3) := by decide +kernel
theorem dX12_two_150 : decode cX12_two 150 = .ok (.goto (-112), 3) := by decide +kernel
theorem dX12_two_153 : decode cX12_two 153 = .ok (.bipush (-9), 2) := by decide +kernel
theorem dX12_two_155 : decode cX12_two 155 = .ok (.ireturn, 1) := by decide +kernel
theorem dX12_whatWas_0 : decode cX12_whatWas 0 = .ok (.aload_n 0, 1) := by decide +kernel
theorem dX12_whatWas_1 : decode cX12_whatWas 1 = .ok (.iload_n 1, 1) := by decide +kernel
theorem dX12_whatWas_2 : decode cX12_whatWas 2 = .ok (.invokevirtual 139, 3) := by decide +kernel
theorem dX12_whatWas_5 : decode cX12_whatWas 5 = .ok (.ifCond .ne 9, 3) := by decide +kernel
theorem dX12_whatWas_8 : decode cX12_whatWas 8 = .ok (.aload_n 0, 1) := by decide +kernel
theorem dX12_whatWas_9 : decode cX12_whatWas 9 = .ok (.iconst (-1), 1) := by decide +kernel
theorem dX12_whatWas_10 : decode cX12_whatWas 10 = .ok (.invokevirtual 56, 3) := by decide +kernel
theorem dX12_whatWas_13 : decode cX12_whatWas 13 = .ok (.ireturn, 1) := by decide +kernel
theorem dX12_whatWas_14 : decode cX12_whatWas 14 = .ok (.iload_n 2, 1) := by decide +kernel
theorem dX12_whatWas_15 : decode cX12_whatWas 15 = .ok (.iconst 0, 1) := by decide +kernel
theorem dX12_whatWas_16 : decode cX12_whatWas 16 = .ok (.iconst 1, 1) := by decide +kernel
theorem dX12_whatWas_17 : decode cX12_whatWas 17 = .ok (.invokestatic 62, 3) := by decide +kernel
theorem dX12_whatWas_20 : decode cX12_whatWas 20 = .ok (.ifCond .ne 10, 3) := by decide +kernel
theorem dX12_whatWas_23 : decode cX12_whatWas 23 = .ok (.aload_n 0, 1) := by decide +kernel
theorem dX12_whatWas_24 : decode cX12_whatWas 24 = .ok (.bipush (-2), 2) := by decide +kernel
theorem dX12_whatWas_26 : decode cX12_whatWas 26 = .ok (.invokevirtual 56, 3) := by decide +kernel
theorem dX12_whatWas_29 : decode cX12_whatWas 29 = .ok (.ireturn, 1) := by decide +kernel
theorem dX12_whatWas_30 : decode cX12_whatWas 30 = .ok (.aload_n 0, 1) := by decide +kernel
theorem dX12_whatWas_31 : decode cX12_whatWas 31 = .ok (.getfield 192, 3) := by decide +kernel
theorem dX12_whatWas_34 : decode cX12_whatWas 34 = .ok (.aload_n 0, 1) := by decide +kernel
theorem dX12_whatWas_35 : decode cX12_whatWas 35 = .ok (.getfield 9, 3) := by decide +kernel
theorem dX12_whatWas_38 : decode cX12_whatWas 38 = .ok (.iconst 1, 1) := by decide +kernel
theorem dX12_whatWas_39 : decode cX12_whatWas 39 = .ok (.iaload, 1) := by decide +kernel
theorem dX12_whatWas_40 : decode cX12_whatWas 40 = .ok (.if_icmp .eq 10, 3) := by decide +kernel
theorem dX12_whatWas_43 : decode cX12_whatWas 43 = .ok (.aload_n 0, 1) := by decide +kernel
theorem dX12_whatWas_44 : decode cX12_whatWas 44 = .ok (.bipush (-3), 2) := by decide +kernel
theorem dX12_whatWas_46 : decode cX12_whatWas 46 = .ok (.invokevirtual 56, 3) := by decide +kernel
theorem dX12_whatWas_49 : decode cX12_whatWas 49 = .ok (.ireturn, 1) := by decide +kernel
theorem dX12_whatWas_50 : decode cX12_whatWas 50 = .ok (.iconst 0, 1) := by decide +kernel
theorem dX12_whatWas_51 : decode cX12_whatWas 51 = .ok (.istore_n 3, 1) := by decide +kernel
theorem dX12_whatWas_52 : decode cX12_whatWas 52 = .ok (.iconst 0, 1) := by decide +kernel
theorem dX12_whatWas_53 : decode cX12_whatWas 53 = .ok (.istore 4, 2) := by decide +kernel
theorem dX12_whatWas_55 : decode cX12_whatWas 55 = .ok (.iload 4, 2) := by decide +kernel
theorem dX12_whatWas_57 : decode cX12_whatWas 57 = .ok (.iload_n 2, 1) := by decide +kernel
theorem dX12_whatWas_58 : decode cX12_whatWas 58 = .ok (.ifCond .ne 8, 3) := by decide +kernel
theorem dX12_whatWas_61 : decode cX12_whatWas 61 = .ok (.bipush 7, 2) := by decide +kernel
theorem dX12_whatWas_63 : decode cX12_whatWas 63 = .ok (.goto 5, 3) := by decide +kernel
theorem dX12_whatWas_66 : decode cX12_whatWas 66 = .ok (.bipush 10, 2) := by decide +kernel
theorem dX12_whatWas_68 : decode cX12_whatWas 68 = .ok (.if_icmp .ge 122, 3) := by decide +kernel
theorem dX12_whatWas_71 : decode cX12_whatWas 71 = .ok (.aload_n 0, 1) := by decide +kernel
theorem dX12_whatWas_72 : decode cX12_whatWas 72 = .ok (.getfield 9, 3) := by decide +kernel
theorem dX12_whatWas_75 : decode cX12_whatWas 75 = .ok (.aload_n 0, 1) := by decide +kernel
theorem dX12_whatWas_76 : decode cX12_whatWas 76 = .ok (.getfield 13, 3) := by decide +kernel
theorem dX12_whatWas_79 : decode cX12_whatWas 79 = .ok (.invokestatic 149, 3) := by decide +kernel
theorem dX12_whatWas_82 : decode cX12_whatWas 82 = .ok (.aload_n 0, 1) := by decide +kernel
theorem dX12_whatWas_83 : decode cX12_whatWas 83 = .ok (.getfield 13, 3) := by decide +kernel
theorem dX12_whatWas_86 : decode cX12_whatWas 86 = .ok (.iload_n 1, 1) := by decide +kernel
theorem dX12_whatWas_87 : decode cX12_whatWas 87 = .ok (.iload_n 2, 1) := by decide +kernel
theorem dX12_whatWas_88 : decode cX12_whatWas 88 = .ok (.ifCond .ne 7, 3) := by decide +kernel
theorem dX12_whatWas_91 : decode cX12_whatWas 91 = .ok (.iconst 0, 1) := by decide +kernel
theorem dX12_whatWas_92 : decode cX12_whatWas 92 = .ok (.goto 4, 3) := by decide +kernel
theorem dX12_whatWas_95 : decode cX12_whatWas 95 = .ok (.iconst 1, 1) := by decide +kernel
theorem dX12_whatWas_96 : decode cX12_whatWas 96 = .ok (.invokestatic 66, 3) := by decide +kernel
theorem dX12_whatWas_99 : decode cX12_whatWas 99 = .ok (.iload 4, 2) := by decide +kernel
theorem dX12_whatWas_101 : decode cX12_whatWas 101 = .ok (.iastore, 1) := by decide +kernel
theorem dX12_whatWas_102 : decode cX12_whatWas 102 = .ok (.iconst 1, 1) := by decide +kernel
theorem dX12_whatWas_103 : decode cX12_whatWas 103 = .ok (.istore 5, 2) := by decide +kernel
theorem dX12_whatWas_105 : decode cX12_whatWas 105 = .ok (.iconst 0, 1) := by decide +kernel
theorem dX12_whatWas_106 : decode cX12_whatWas 106 = .ok (.istore 6, 2) := by decide +kernel
theorem dX12_whatWas_108 : decode cX12_whatWas 108 = .ok (.iload 6, 2) := by decide +kernel
theorem dX12_whatWas_110 : decode cX12_whatWas 110 = .ok (.aload_n 0, 1) := by decide +kernel
theorem dX12_whatWas_111 : decode cX12_whatWas 111 = .ok (.getfield 9, 3) := by decide +kernel
theorem dX12_whatWas_114 : decode cX12_whatWas 114 = .ok (.iconst 1, 1) := by decide +kernel
theorem dX12_whatWas_115 : decode cX12_whatWas 115 = .ok (.iaload, 1) := by decide +kernel
theorem dX12_whatWas_116 : decode cX12_whatWas 116 = .ok (.if_icmp .ge 52, 3) := by decide +kernel
theorem dX12_whatWas_119 : decode cX12_whatWas 119 = .ok (.aload_n 0, 1) := by decide +kernel
theorem dX12_whatWas_120 : decode cX12_whatWas 120 = .ok (.aload_n 0, 1) := by decide +kernel
theorem dX12_whatWas_121 : decode cX12_whatWas 121 = .ok (.getfield 13, 3) := by decide +kernel
theorem dX12_whatWas_124 : decode cX12_whatWas 124 = .ok (.iload 6, 2) := by decide +kernel
theorem dX12_whatWas_126 : decode cX12_whatWas 126 = .ok (.invokevirtual 156, 3) := by decide +kernel
theorem dX12_whatWas_129 : decode cX12_whatWas 129 = .ok (.istore 7, 2) := by decide +kernel
theorem dX12_whatWas_131 : decode cX12_whatWas 131 = .ok (.iload 5, 2) := by decide +kernel
theorem dX12_whatWas_133 : decode cX12_whatWas 133 = .ok (.bipush 99, 2) := by decide +kernel
theorem dX12_whatWas_135 : decode cX12_whatWas 135 = .ok (.aload_n 0, 1) := by decide +kernel
theorem dX12_whatWas_136 : decode cX12_whatWas 136 = .ok (.getfield 31, 3) := by decide +kernel
theorem dX12_whatWas_139 : decode cX12_whatWas 139 = .ok (.iload_n 1, 1) := by decide +kernel
theorem dX12_whatWas_140 : decode cX12_whatWas 140 = .ok (.iaload, 1) := by decide +kernel
theorem dX12_whatWas_141 : decode cX12_whatWas 141 = .ok (.invokestatic 88, 3) := by decide +kernel
theorem dX12_whatWas_144 : decode cX12_whatWas 144 = .ok (.aload_n 0, 1) := by decide +kernel
theorem dX12_whatWas_145 : decode cX12_whatWas 145 = .ok (.getfield 25, 3) := by decide +kernel
theorem dX12_whatWas_148 : decode cX12_whatWas 148 = .ok (.iload 6, 2) := by decide +kernel
theorem dX12_whatWas_150 : decode cX12_whatWas 150 = .ok (.iaload, 1) := by decide +kernel
theorem dX12_whatWas_151 : decode cX12_whatWas 151 = .ok (.if_icmp .ne 7, 3) := by decide +kernel
theorem dX12_whatWas_154 : decode cX12_whatWas 154 = .ok (.iconst 1, 1) := by decide +kernel
theorem dX12_whatWas_155 : decode cX12_whatWas 155 = .ok (.goto 4, 3) := by decide +kernel
theorem dX12_whatWas_158 : decode cX12_whatWas 158 = .ok (.iconst 0, 1) := by decide +kernel
theorem dX12_whatWas_159 : decode cX12_whatWas 159 = .ok (.iand, 1) := by decide +kernel
theorem dX12_whatWas_160 : decode cX12_whatWas 160 = .ok (.istore 5, 2) := by decide +kernel
theorem dX12_whatWas_162 : decode cX12_whatWas 162 = .ok (.iinc 6 1, 3) := by decide +kernel
theorem dX12_whatWas_165 : decode cX12_whatWas 165 = .ok (.goto (-57), 3) := by decide +kernel
theorem dX12_whatWas_168 : decode cX12_whatWas 168 = .ok (.iload_n 3, 1) := by decide +kernel
theorem dX12_whatWas_169 : decode cX12_whatWas 169 = .ok (.iload 5, 2) := by decide +kernel
theorem dX12_whatWas_171 : decode cX12_whatWas 171 = .ok (.ifCond .eq 10, 3) := by decide +kernel
theorem dX12_whatWas_174 : decode cX12_whatWas 174 = .ok (.iconst 1, 1) := by decide +kernel
theorem dX12_whatWas_175 : decode cX12_whatWas 175 = .ok (.iload 4, 2) := by decide +kernel
theorem dX12_whatWas_177 : decode cX12_whatWas 177 = .ok (.ishl, 1) := by decide +kernel
theorem dX12_whatWas_178 : decode cX12_whatWas 178 = .ok (.goto 4, 3) := by decide +kernel
theorem dX12_whatWas_181 : decode cX12_whatWas 181 = .ok (.iconst 0, 1) := by decide +kernel
theorem dX12_whatWas_182 : decode cX12_whatWas 182 = .ok (.ior, 1) := by decide +kernel
theorem dX12_whatWas_183 : decode cX12_whatWas 183 = .ok (.istore_n 3, 1) := by decide +kernel
theorem dX12_whatWas_184 : decode cX12_whatWas 184 = .ok (.iinc 4 1, 3) := by decide +kernel
theorem dX12_whatWas_187 : decode cX12_whatWas 187 = .ok (.goto (-132), 3) := by decide +kernel
theorem dX12_whatWas_190 : decode cX12_whatWas 190 = .ok (.iload_n 3, 1) := by decide +kernel
theorem dX12_whatWas_191 : decode cX12_whatWas 191 = .ok (.ireturn, 1) := by decide +kernel
theorem dX12_row_0 : decode cX12_row 0 = .ok (.iload_n 1, 1) := by decide +kernel
theorem dX12_row_1 : decode cX12_row 1 = .ok (.ifCond .ge 10, 3) := by decide +kernel
theorem dX12_row_4 : decode cX12_row 4 = .ok (.aload_n 0, 1) := by decide +kernel
theorem dX12_row_5 : decode cX12_row 5 = .ok (.bipush (-4), 2) := by decide +kernel
theorem dX12_row_7 : decode cX12_row 7 = .ok (.invokevirtual 56, 3) := by decide +kernel
theorem dX12_row_10 : decode cX12_row 10 = .ok (.ireturn, 1) := by decide +kernel
theorem dX12_row_11 : decode cX12_row 11 = .ok (.iload_n 1, 1) := by decide +kernel
theorem dX12_row_12 : decode cX12_row 12 = .ok (.bipush 99, 2) := by decide +kernel
theorem dX12_row_14 : decode cX12_row 14 = .ok (.if_icmp .gt 12, 3) := by decide +kernel
theorem dX12_row_17 : decode cX12_row 17 = .ok (.aload_n 0, 1) := by decide +kernel
theorem dX12_row_18 : decode cX12_row 18 = .ok (.getfield 192, 3) := by decide +kernel
theorem dX12_row_21 : decode cX12_row 21 = .ok (.bipush 12, 2) := by decide +kernel
theorem dX12_row_23 : decode cX12_row 23 = .ok (.if_icmp .ne 10, 3) := by decide +kernel
theorem dX12_row_26 : decode cX12_row 26 = .ok (.aload_n 0, 1) := by decide +kernel
theorem dX12_row_27 : decode cX12_row 27 = .ok (.bipush (-6), 2) := by decide +kernel
theorem dX12_row_29 : decode cX12_row 29 = .ok (.invokevirtual 56, 3) := by decide +kernel
theorem dX12_row_32 : decode cX12_row 32 = .ok (.ireturn, 1) := by decide +kernel
theorem dX12_row_33 : decode cX12_row 33 = .ok (.aload_n 0, 1) := by decide +kernel
theorem dX12_row_34 : decode cX12_row 34 = .ok (.getfield 25, 3) := by decide +kernel
theorem dX12_row_37 : decode cX12_row 37 = .ok (.aload_n 0, 1) := by decide +kernel
theorem dX12_row_38 : decode cX12_row 38 = .ok (.getfield 192, 3) := by decide +kernel
theorem dX12_row_41 : decode cX12_row 41 = .ok (.iload_n 1, 1) := by decide +kernel
theorem dX12_row_42 : decode cX12_row 42 = .ok (.iastore, 1) := by decide +kernel
theorem dX12_row_43 : decode cX12_row 43 = .ok (.aload_n 0, 1) := by decide +kernel
theorem dX12_row_44 : decode cX12_row 44 = .ok (.dup, 1) := by decide +kernel
theorem dX12_row_45 : decode cX12_row 45 = .ok (.getfield 192, 3) := by decide +kernel
theorem dX12_row_48 : decode cX12_row 48 = .ok (.iconst 1, 1) := by decide +kernel
theorem dX12_row_49 : decode cX12_row 49 = .ok (.iadd, 1) := by decide +kernel
theorem dX12_row_50 : decode cX12_row 50 = .ok (.putfield 192, 3) := by decide +kernel
theorem dX12_row_53 : decode cX12_row 53 = .ok (.aload_n 0, 1) := by decide +kernel
theorem dX12_row_54 : decode cX12_row 54 = .ok (.getfield 192, 3) := by decide +kernel
theorem dX12_row_57 : decode cX12_row 57 = .ok (.ireturn, 1) := by decide +kernel
theorem dX12_judge_0 : decode cX12_judge 0 = .ok (.aload_n 0, 1) := by decide +kernel
theorem dX12_judge_1 : decode cX12_judge 1 = .ok (.iload_n 1, 1) := by decide +kernel
theorem dX12_judge_2 : decode cX12_judge 2 = .ok (.invokevirtual 136, 3) := by decide +kernel
theorem dX12_judge_5 : decode cX12_judge 5 = .ok (.ifCond .ne 9, 3) := by decide +kernel
theorem dX12_judge_8 : decode cX12_judge 8 = .ok (.aload_n 0, 1) := by decide +kernel
theorem dX12_judge_9 : decode cX12_judge 9 = .ok (.iconst (-1), 1) := by decide +kernel
theorem dX12_judge_10 : decode cX12_judge 10 = .ok (.invokevirtual 56, 3) := by decide +kernel
theorem dX12_judge_13 : decode cX12_judge 13 = .ok (.ireturn, 1) := by decide +kernel
theorem dX12_judge_14 : decode cX12_judge 14 = .ok (.aload_n 0, 1) := by decide +kernel
theorem dX12_judge_15 : decode cX12_judge 15 = .ok (.getfield 192, 3) := by decide +kernel
theorem dX12_judge_18 : decode cX12_judge 18 = .ok (.istore_n 2, 1) := by decide +kernel
theorem dX12_judge_19 : decode cX12_judge 19 = .ok (.aload_n 0, 1) := by decide +kernel
theorem dX12_judge_20 : decode cX12_judge 20 = .ok (.iconst 0, 1) := by decide +kernel
theorem dX12_judge_21 : decode cX12_judge 21 = .ok (.putfield 192, 3) := by decide +kernel
theorem dX12_judge_24 : decode cX12_judge 24 = .ok (.aload_n 0, 1) := by decide +kernel
theorem dX12_judge_25 : decode cX12_judge 25 = .ok (.aload_n 0, 1) := by decide +kernel
theorem dX12_judge_26 : decode cX12_judge 26 = .ok (.getfield 9, 3) := by decide +kernel
theorem dX12_judge_29 : decode cX12_judge 29 = .ok (.iload_n 1, 1) := by decide +kernel
theorem dX12_judge_30 : decode cX12_judge 30 = .ok (.invokevirtual 156, 3) := by decide +kernel
theorem dX12_judge_33 : decode cX12_judge 33 = .ok (.istore_n 3, 1) := by decide +kernel
theorem dX12_judge_34 : decode cX12_judge 34 = .ok (.iconst 0, 1) := by decide +kernel
theorem dX12_judge_35 : decode cX12_judge 35 = .ok (.istore 4, 2) := by decide +kernel
theorem dX12_judge_37 : decode cX12_judge 37 = .ok (.iload 4, 2) := by decide +kernel
theorem dX12_judge_39 : decode cX12_judge 39 = .ok (.iload_n 2, 1) := by decide +kernel
theorem dX12_judge_40 : decode cX12_judge 40 = .ok (.if_icmp .ge 40, 3) := by decide +kernel
theorem dX12_judge_43 : decode cX12_judge 43 = .ok (.iload 4, 2) := by decide +kernel
theorem dX12_judge_45 : decode cX12_judge 45 = .ok (.aload_n 0, 1) := by decide +kernel
theorem dX12_judge_46 : decode cX12_judge 46 = .ok (.getfield 9, 3) := by decide +kernel
theorem dX12_judge_49 : decode cX12_judge 49 = .ok (.iconst 0, 1) := by decide +kernel
theorem dX12_judge_50 : decode cX12_judge 50 = .ok (.iaload, 1) := by decide +kernel
theorem dX12_judge_51 : decode cX12_judge 51 = .ok (.if_icmp .ge 20, 3) := by decide +kernel
theorem dX12_judge_54 : decode cX12_judge 54 = .ok (.aload_n 0, 1) := by decide +kernel
theorem dX12_judge_55 : decode cX12_judge 55 = .ok (.getfield 34, 3) := by decide +kernel
theorem dX12_judge_58 : decode cX12_judge 58 = .ok (.iload 4, 2) := by decide +kernel
theorem dX12_judge_60 : decode cX12_judge 60 = .ok (.iaload, 1) := by decide +kernel
theorem dX12_judge_61 : decode cX12_judge 61 = .ok (.aload_n 0, 1) := by decide +kernel
theorem dX12_judge_62 : decode cX12_judge 62 = .ok (.getfield 25, 3) := by decide +kernel
theorem dX12_judge_65 : decode cX12_judge 65 = .ok (.iload 4, 2) := by decide +kernel
theorem dX12_judge_67 : decode cX12_judge 67 = .ok (.iaload, 1) := by decide +kernel
theorem dX12_judge_68 : decode cX12_judge 68 = .ok (.if_icmp .eq 6, 3) := by decide +kernel
theorem dX12_judge_71 : decode cX12_judge 71 = .ok (.iload 4, 2) := by decide +kernel
theorem dX12_judge_73 : decode cX12_judge 73 = .ok (.ireturn, 1) := by decide +kernel
theorem dX12_judge_74 : decode cX12_judge 74 = .ok (.iinc 4 1, 3) := by decide +kernel
theorem dX12_judge_77 : decode cX12_judge 77 = .ok (.goto (-40), 3) := by decide +kernel
theorem dX12_judge_80 : decode cX12_judge 80 = .ok (.bipush (-9), 2) := by decide +kernel
theorem dX12_judge_82 : decode cX12_judge 82 = .ok (.ireturn, 1) := by decide +kernel
theorem dX12_clear_0 : decode cX12_clear 0 = .ok (.aload_n 0, 1) := by decide +kernel
theorem dX12_clear_1 : decode cX12_clear 1 = .ok (.getfield 192, 3) := by decide +kernel
theorem dX12_clear_4 : decode cX12_clear 4 = .ok (.istore_n 1, 1) := by decide +kernel
theorem dX12_clear_5 : decode cX12_clear 5 = .ok (.aload_n 0, 1) := by decide +kernel
theorem dX12_clear_6 : decode cX12_clear 6 = .ok (.iconst 0, 1) := by decide +kernel
theorem dX12_clear_7 : decode cX12_clear 7 = .ok (.putfield 192, 3) := by decide +kernel
theorem dX12_clear_10 : decode cX12_clear 10 = .ok (.iload_n 1, 1) := by decide +kernel
theorem dX12_clear_11 : decode cX12_clear 11 = .ok (.ireturn, 1) := by decide +kernel
theorem dX12_drawn_0 : decode cX12_drawn 0 = .ok (.aload_n 0, 1) := by decide +kernel
theorem dX12_drawn_1 : decode cX12_drawn 1 = .ok (.aload_n 0, 1) := by decide +kernel
theorem dX12_drawn_2 : decode cX12_drawn 2 = .ok (.getfield 195, 3) := by decide +kernel
theorem dX12_drawn_5 : decode cX12_drawn 5 = .ok (.ldc 198, 2) := by decide +kernel
theorem dX12_drawn_7 : decode cX12_drawn 7 = .ok (.imul, 1) := by decide +kernel
theorem dX12_drawn_8 : decode cX12_drawn 8 = .ok (.ldc 199, 2) := by decide +kernel
theorem dX12_drawn_10 : decode cX12_drawn 10 = .ok (.iadd, 1) := by decide +kernel
theorem dX12_drawn_11 : decode cX12_drawn 11 = .ok (.putfield 195, 3) := by decide +kernel
theorem dX12_drawn_14 : decode cX12_drawn 14 = .ok (.aload_n 0, 1) := by decide +kernel
theorem dX12_drawn_15 : decode cX12_drawn 15 = .ok (.getfield 195, 3) := by decide +kernel
theorem dX12_drawn_18 : decode cX12_drawn 18 = .ok (.ldc 200, 2) := by decide +kernel
theorem dX12_drawn_20 : decode cX12_drawn 20 = .ok (.iand, 1) := by decide +kernel
theorem dX12_drawn_21 : decode cX12_drawn 21 = .ok (.sipush 256, 3) := by decide +kernel
theorem dX12_drawn_24 : decode cX12_drawn 24 = .ok (.idiv, 1) := by decide +kernel
theorem dX12_drawn_25 : decode cX12_drawn 25 = .ok (.iload_n 1, 1) := by decide +kernel
theorem dX12_drawn_26 : decode cX12_drawn 26 = .ok (.irem, 1) := by decide +kernel
theorem dX12_drawn_27 : decode cX12_drawn 27 = .ok (.ireturn, 1) := by decide +kernel
theorem dX12_lots_0 : decode cX12_lots 0 = .ok (.iload_n 1, 1) := by decide +kernel
theorem dX12_lots_1 : decode cX12_lots 1 = .ok (.iconst 1, 1) := by decide +kernel
theorem dX12_lots_2 : decode cX12_lots 2 = .ok (.if_icmp .ge 10, 3) := by decide +kernel
theorem dX12_lots_5 : decode cX12_lots 5 = .ok (.aload_n 0, 1) := by decide +kernel
theorem dX12_lots_6 : decode cX12_lots 6 = .ok (.bipush (-4), 2) := by decide +kernel
theorem dX12_lots_8 : decode cX12_lots 8 = .ok (.invokevirtual 56, 3) := by decide +kernel
theorem dX12_lots_11 : decode cX12_lots 11 = .ok (.ireturn, 1) := by decide +kernel
theorem dX12_lots_12 : decode cX12_lots 12 = .ok (.iload_n 1, 1) := by decide +kernel
theorem dX12_lots_13 : decode cX12_lots 13 = .ok (.bipush 20, 2) := by decide +kernel
theorem dX12_lots_15 : decode cX12_lots 15 = .ok (.if_icmp .le 10, 3) := by decide +kernel
theorem dX12_lots_18 : decode cX12_lots 18 = .ok (.aload_n 0, 1) := by decide +kernel
theorem dX12_lots_19 : decode cX12_lots 19 = .ok (.bipush (-6), 2) := by decide +kernel
theorem dX12_lots_21 : decode cX12_lots 21 = .ok (.invokevirtual 56, 3) := by decide +kernel
theorem dX12_lots_24 : decode cX12_lots 24 = .ok (.ireturn, 1) := by decide +kernel
theorem dX12_lots_25 : decode cX12_lots 25 = .ok (.iload_n 3, 1) := by decide +kernel
theorem dX12_lots_26 : decode cX12_lots 26 = .ok (.iconst 0, 1) := by decide +kernel
theorem dX12_lots_27 : decode cX12_lots 27 = .ok (.iconst 1, 1) := by decide +kernel
theorem dX12_lots_28 : decode cX12_lots 28 = .ok (.invokestatic 62, 3) := by decide +kernel
theorem dX12_lots_31 : decode cX12_lots 31 = .ok (.ifCond .ne 10, 3) := by decide +kernel
theorem dX12_lots_34 : decode cX12_lots 34 = .ok (.aload_n 0, 1) := by decide +kernel
theorem dX12_lots_35 : decode cX12_lots 35 = .ok (.bipush (-2), 2) := by decide +kernel
theorem dX12_lots_37 : decode cX12_lots 37 = .ok (.invokevirtual 56, 3) := by decide +kernel
theorem dX12_lots_40 : decode cX12_lots 40 = .ok (.ireturn, 1) := by decide +kernel
theorem dX12_lots_41 : decode cX12_lots 41 = .ok (.aload_n 0, 1) := by decide +kernel
theorem dX12_lots_42 : decode cX12_lots 42 = .ok (.getfield 9, 3) := by decide +kernel
theorem dX12_lots_45 : decode cX12_lots 45 = .ok (.iconst 1, 1) := by decide +kernel
theorem dX12_lots_46 : decode cX12_lots 46 = .ok (.iaload, 1) := by decide +kernel
theorem dX12_lots_47 : decode cX12_lots 47 = .ok (.ifCond .ne 10, 3) := by decide +kernel
theorem dX12_lots_50 : decode cX12_lots 50 = .ok (.aload_n 0, 1) := by decide +kernel
theorem dX12_lots_51 : decode cX12_lots 51 = .ok (.bipush (-3), 2) := by decide +kernel
theorem dX12_lots_53 : decode cX12_lots 53 = .ok (.invokevirtual 56, 3) := by decide +kernel
theorem dX12_lots_56 : decode cX12_lots 56 = .ok (.ireturn, 1) := by decide +kernel
theorem dX12_lots_57 : decode cX12_lots 57 = .ok (.aload_n 0, 1) := by decide +kernel
theorem dX12_lots_58 : decode cX12_lots 58 = .ok (.iload_n 2, 1) := by decide +kernel
theorem dX12_lots_59 : decode cX12_lots 59 = .ok (.putfield 195, 3) := by decide +kernel
theorem dX12_lots_62 : decode cX12_lots 62 = .ok (.iconst 0, 1) := by decide +kernel
theorem dX12_lots_63 : decode cX12_lots 63 = .ok (.istore 4, 2) := by decide +kernel
theorem dX12_lots_65 : decode cX12_lots 65 = .ok (.iconst 0, 1) := by decide +kernel
theorem dX12_lots_66 : decode cX12_lots 66 = .ok (.istore 5, 2) := by decide +kernel
theorem dX12_lots_68 : decode cX12_lots 68 = .ok (.iconst 0, 1) := by decide +kernel
theorem dX12_lots_69 : decode cX12_lots 69 = .ok (.istore 6, 2) := by decide +kernel
theorem dX12_lots_71 : decode cX12_lots 71 = .ok (.iload 6, 2) := by decide +kernel
theorem dX12_lots_73 : decode cX12_lots 73 = .ok (.iload_n 1, 1) := by decide +kernel
theorem dX12_lots_74 : decode cX12_lots 74 = .ok (.if_icmp .ge 158, 3) := by decide +kernel
theorem dX12_lots_77 : decode cX12_lots 77 = .ok (.aload_n 0, 1) := by decide +kernel
theorem dX12_lots_78 : decode cX12_lots 78 = .ok (.getfield 9, 3) := by decide +kernel
theorem dX12_lots_81 : decode cX12_lots 81 = .ok (.aload_n 0, 1) := by decide +kernel
theorem dX12_lots_82 : decode cX12_lots 82 = .ok (.getfield 13, 3) := by decide +kernel
theorem dX12_lots_85 : decode cX12_lots 85 = .ok (.invokestatic 149, 3) := by decide +kernel
theorem dX12_lots_88 : decode cX12_lots 88 = .ok (.iconst 0, 1) := by decide +kernel
theorem dX12_lots_89 : decode cX12_lots 89 = .ok (.istore 7, 2) := by decide +kernel
theorem dX12_lots_91 : decode cX12_lots 91 = .ok (.iload 7, 2) := by decide +kernel
theorem dX12_lots_93 : decode cX12_lots 93 = .ok (.aload_n 0, 1) := by decide +kernel
theorem dX12_lots_94 : decode cX12_lots 94 = .ok (.getfield 9, 3) := by decide +kernel
theorem dX12_lots_97 : decode cX12_lots 97 = .ok (.iconst 1, 1) := by decide +kernel
theorem dX12_lots_98 : decode cX12_lots 98 = .ok (.iaload, 1) := by decide +kernel
theorem dX12_lots_99 : decode cX12_lots 99 = .ok (.if_icmp .ge 46, 3) := by decide +kernel
theorem dX12_lots_102 : decode cX12_lots 102 = .ok (.iconst 0, 1) := by decide +kernel
theorem dX12_lots_103 : decode cX12_lots 103 = .ok (.istore 8, 2) := by decide +kernel
theorem dX12_lots_105 : decode cX12_lots 105 = .ok (.iload 8, 2) := by decide +kernel
theorem dX12_lots_107 : decode cX12_lots 107 = .ok (.aload_n 0, 1) := by decide +kernel
theorem dX12_lots_108 : decode cX12_lots 108 = .ok (.getfield 9, 3) := by decide +kernel
theorem dX12_lots_111 : decode cX12_lots 111 = .ok (.iconst 0, 1) := by decide +kernel
theorem dX12_lots_112 : decode cX12_lots 112 = .ok (.iaload, 1) := by decide +kernel
theorem dX12_lots_113 : decode cX12_lots 113 = .ok (.if_icmp .ge 26, 3) := by decide +kernel
theorem dX12_lots_116 : decode cX12_lots 116 = .ok (.aload_n 0, 1) := by decide +kernel
theorem dX12_lots_117 : decode cX12_lots 117 = .ok (.getfield 13, 3) := by decide +kernel
theorem dX12_lots_120 : decode cX12_lots 120 = .ok (.iload 7, 2) := by decide +kernel
theorem dX12_lots_122 : decode cX12_lots 122 = .ok (.iload 8, 2) := by decide +kernel
theorem dX12_lots_124 : decode cX12_lots 124 = .ok (.invokestatic 91, 3) := by decide +kernel
theorem dX12_lots_127 : decode cX12_lots 127 = .ok (.aload_n 0, 1) := by decide +kernel
theorem dX12_lots_128 : decode cX12_lots 128 = .ok (.iconst 4, 1) := by decide +kernel
theorem dX12_lots_129 : decode cX12_lots 129 = .ok (.invokevirtual 201, 3) := by decide +kernel
theorem dX12_lots_132 : decode cX12_lots 132 = .ok (.iastore, 1) := by decide +kernel
theorem dX12_lots_133 : decode cX12_lots 133 = .ok (.iinc 8 1, 3) := by decide +kernel
theorem dX12_lots_136 : decode cX12_lots 136 = .ok (.goto (-31), 3) := by decide +kernel
theorem dX12_lots_139 : decode cX12_lots 139 = .ok (.iinc 7 1, 3) := by decide +kernel
theorem dX12_lots_142 : decode cX12_lots 142 = .ok (.goto (-51), 3) := by decide +kernel
theorem dX12_lots_145 : decode cX12_lots 145 = .ok (.aload_n 0, 1) := by decide +kernel
theorem dX12_lots_146 : decode cX12_lots 146 = .ok (.aload_n 0, 1) := by decide +kernel
theorem dX12_lots_147 : decode cX12_lots 147 = .ok (.getfield 13, 3) := by decide +kernel
theorem dX12_lots_150 : decode cX12_lots 150 = .ok (.iconst 0, 1) := by decide +kernel
theorem dX12_lots_151 : decode cX12_lots 151 = .ok (.invokevirtual 156, 3) := by decide +kernel
theorem dX12_lots_154 : decode cX12_lots 154 = .ok (.istore 7, 2) := by decide +kernel
theorem dX12_lots_156 : decode cX12_lots 156 = .ok (.iconst 1, 1) := by decide +kernel
theorem dX12_lots_157 : decode cX12_lots 157 = .ok (.istore 8, 2) := by decide +kernel
theorem dX12_lots_159 : decode cX12_lots 159 = .ok (.iconst 1, 1) := by decide +kernel
theorem dX12_lots_160 : decode cX12_lots 160 = .ok (.istore 9, 2) := by decide +kernel
theorem dX12_lots_162 : decode cX12_lots 162 = .ok (.iload 9, 2) := by decide +kernel
theorem dX12_lots_164 : decode cX12_lots 164 = .ok (.aload_n 0, 1) := by decide +kernel
theorem dX12_lots_165 : decode cX12_lots 165 = .ok (.getfield 9, 3) := by decide +kernel
theorem dX12_lots_168 : decode cX12_lots 168 = .ok (.iconst 1, 1) := by decide +kernel
theorem dX12_lots_169 : decode cX12_lots 169 = .ok (.iaload, 1) := by decide +kernel
theorem dX12_lots_170 : decode cX12_lots 170 = .ok (.if_icmp .ge 34, 3) := by decide +kernel
theorem dX12_lots_173 : decode cX12_lots 173 = .ok (.iload 8, 2) := by decide +kernel
theorem dX12_lots_175 : decode cX12_lots 175 = .ok (.aload_n 0, 1) := by decide +kernel
theorem dX12_lots_176 : decode cX12_lots 176 = .ok (.aload_n 0, 1) := by decide +kernel
theorem dX12_lots_177 : decode cX12_lots 177 = .ok (.getfield 13, 3) := by decide +kernel
theorem dX12_lots_180 : decode cX12_lots 180 = .ok (.iload 9, 2) := by decide +kernel
theorem dX12_lots_182 : decode cX12_lots 182 = .ok (.invokevirtual 156, 3) := by decide +kernel
theorem dX12_lots_185 : decode cX12_lots 185 = .ok (.iload 7, 2) := by decide +kernel
theorem dX12_lots_187 : decode cX12_lots 187 = .ok (.if_icmp .lt 7, 3) := by decide +kernel
theorem dX12_lots_190 : decode cX12_lots 190 = .ok (.iconst 1, 1) := by decide +kernel
theorem dX12_lots_191 : decode cX12_lots 191 = .ok (.goto 4, 3) := by decide +kernel
theorem dX12_lots_194 : decode cX12_lots 194 = .ok (.iconst 0, 1) := by decide +kernel
theorem dX12_lots_195 : decode cX12_lots 195 = .ok (.iand, 1) := by decide +kernel
theorem dX12_lots_196 : decode cX12_lots 196 = .ok (.istore 8, 2) := by decide +kernel
theorem dX12_lots_198 : decode cX12_lots 198 = .ok (.iinc 9 1, 3) := by decide +kernel
theorem dX12_lots_201 : decode cX12_lots 201 = .ok (.goto (-39), 3) := by decide +kernel
theorem dX12_lots_204 : decode cX12_lots 204 = .ok (.iload 4, 2) := by decide +kernel
theorem dX12_lots_206 : decode cX12_lots 206 = .ok (.iload 7, 2) := by decide +kernel
theorem dX12_lots_208 : decode cX12_lots 208 = .ok (.iadd, 1) := by decide +kernel
theorem dX12_lots_209 : decode cX12_lots 209 = .ok (.istore 4, 2) := by decide +kernel
theorem dX12_lots_211 : decode cX12_lots 211 = .ok (.iload 5, 2) := by decide +kernel
theorem dX12_lots_213 : decode cX12_lots 213 = .ok (.iload 8, 2) := by decide +kernel
theorem dX12_lots_215 : decode cX12_lots 215 = .ok (.ifCond .eq 7, 3) := by decide +kernel
theorem dX12_lots_218 : decode cX12_lots 218 = .ok (.iconst 1, 1) := by decide +kernel
theorem dX12_lots_219 : decode cX12_lots 219 = .ok (.goto 4, 3) := by decide +kernel
theorem dX12_lots_222 : decode cX12_lots 222 = .ok (.iconst 0, 1) := by decide +kernel
theorem dX12_lots_223 : decode cX12_lots 223 = .ok (.iadd, 1) := by decide +kernel
theorem dX12_lots_224 : decode cX12_lots 224 = .ok (.istore 5, 2) := by decide +kernel
theorem dX12_lots_226 : decode cX12_lots 226 = .ok (.iinc 6 1, 3) := by decide +kernel
theorem dX12_lots_229 : decode cX12_lots 229 = .ok (.goto (-158), 3) := by decide +kernel
theorem dX12_lots_232 : decode cX12_lots 232 = .ok (.iload_n 3, 1) := by decide +kernel
theorem dX12_lots_233 : decode cX12_lots 233 = .ok (.ifCond .ne 8, 3) := by decide +kernel
theorem dX12_lots_236 : decode cX12_lots 236 = .ok (.iload 4, 2) := by decide +kernel
theorem dX12_lots_238 : decode cX12_lots 238 = .ok (.goto 5, 3) := by decide +kernel
theorem dX12_lots_241 : decode cX12_lots 241 = .ok (.iload 5, 2) := by decide +kernel
theorem dX12_lots_243 : decode cX12_lots 243 = .ok (.ireturn, 1) := by decide +kernel
theorem dX12_image_0 : decode cX12_image 0 = .ok (.aload_n 0, 1) := by decide +kernel
theorem dX12_image_1 : decode cX12_image 1 = .ok (.getfield 9, 3) := by decide +kernel
theorem dX12_image_4 : decode cX12_image 4 = .ok (.aload_n 0, 1) := by decide +kernel
theorem dX12_image_5 : decode cX12_image 5 = .ok (.getfield 16, 3) := by decide +kernel
theorem dX12_image_8 : decode cX12_image 8 = .ok (.invokestatic 149, 3) := by decide +kernel
theorem dX12_image_11 : decode cX12_image 11 = .ok (.aload_n 0, 1) := by decide +kernel
theorem dX12_image_12 : decode cX12_image 12 = .ok (.iconst 1, 1) := by decide +kernel
theorem dX12_image_13 : decode cX12_image 13 = .ok (.putfield 204, 3) := by decide +kernel
theorem dX12_image_16 : decode cX12_image 16 = .ok (.aload_n 0, 1) := by decide +kernel
theorem dX12_image_17 : decode cX12_image 17 = .ok (.getfield 9, 3) := by decide +kernel
theorem dX12_image_20 : decode cX12_image 20 = .ok (.iconst 0, 1) := by decide +kernel
theorem dX12_image_21 : decode cX12_image 21 = .ok (.iaload, 1) := by decide +kernel
theorem dX12_image_22 : decode cX12_image 22 = .ok (.ireturn, 1) := by decide +kernel
theorem dX12_on_0 : decode cX12_on 0 = .ok (.aload_n 0, 1) := by decide +kernel
theorem dX12_on_1 : decode cX12_on 1 = .ok (.getfield 204, 3) := by decide +kernel
theorem dX12_on_4 : decode cX12_on 4 = .ok (.ifCond .ne 10, 3) := by decide +kernel
theorem dX12_on_7 : decode cX12_on 7 = .ok (.aload_n 0, 1) := by decide +kernel
theorem dX12_on_8 : decode cX12_on 8 = .ok (.bipush (-3), 2) := by decide +kernel
theorem dX12_on_10 : decode cX12_on 10 = .ok (.invokevirtual 56, 3) := by decide +kernel
theorem dX12_on_13 : decode cX12_on 13 = .ok (.ireturn, 1) := by decide +kernel
theorem dX12_on_14 : decode cX12_on 14 = .ok (.aload_n 0, 1) := by decide +kernel
theorem dX12_on_15 : decode cX12_on 15 = .ok (.getfield 16, 3) := by decide +kernel
theorem dX12_on_18 : decode cX12_on 18 = .ok (.aload_n 0, 1) := by decide +kernel
theorem dX12_on_19 : decode cX12_on 19 = .ok (.getfield 9, 3) := by decide +kernel
theorem dX12_on_22 : decode cX12_on 22 = .ok (.invokestatic 149, 3) := by decide +kernel
theorem dX12_on_25 : decode cX12_on 25 = .ok (.aload_n 0, 1) := by decide +kernel
theorem dX12_on_26 : decode cX12_on 26 = .ok (.getfield 9, 3) := by decide +kernel
theorem dX12_on_29 : decode cX12_on 29 = .ok (.iconst 0, 1) := by decide +kernel
theorem dX12_on_30 : decode cX12_on 30 = .ok (.iaload, 1) := by decide +kernel
theorem dX12_on_31 : decode cX12_on 31 = .ok (.ireturn, 1) := by decide +kernel
theorem dX12_count_0 : decode cX12_count 0 = .ok (.iload_n 1, 1) := by decide +kernel
theorem dX12_count_1 : decode cX12_count 1 = .ok (.bipush 11, 2) := by decide +kernel
theorem dX12_count_3 : decode cX12_count 3 = .ok (.bipush 16, 2) := by decide +kernel
theorem dX12_count_5 : decode cX12_count 5 = .ok (.invokestatic 62, 3) := by decide +kernel
theorem dX12_count_8 : decode cX12_count 8 = .ok (.ifCond .eq 13, 3) := by decide +kernel
theorem dX12_count_11 : decode cX12_count 11 = .ok (.aload_n 0, 1) := by decide +kernel
theorem dX12_count_12 : decode cX12_count 12 = .ok (.getfield 28, 3) := by decide +kernel
theorem dX12_count_15 : decode cX12_count 15 = .ok (.iload_n 1, 1) := by decide +kernel
theorem dX12_count_16 : decode cX12_count 16 = .ok (.bipush 10, 2) := by decide +kernel
theorem dX12_count_18 : decode cX12_count 18 = .ok (.isub, 1) := by decide +kernel
theorem dX12_count_19 : decode cX12_count 19 = .ok (.iaload, 1) := by decide +kernel
theorem dX12_count_20 : decode cX12_count 20 = .ok (.ireturn, 1) := by decide +kernel
theorem dX12_count_21 : decode cX12_count 21 = .ok (.iconst 0, 1) := by decide +kernel
theorem dX12_count_22 : decode cX12_count 22 = .ok (.istore_n 2, 1) := by decide +kernel
theorem dX12_count_23 : decode cX12_count 23 = .ok (.iload_n 1, 1) := by decide +kernel
theorem dX12_count_24 : decode cX12_count 24 = .ok (.tableswitch 200 0 7 #[48, 48, 55, 88, 131, 136, 190, 195], 48) := by decide +kernel
theorem dX12_count_72 : decode cX12_count 72 = .ok (.aload_n 0, 1) := by decide +kernel
theorem dX12_count_73 : decode cX12_count 73 = .ok (.getfield 9, 3) := by decide +kernel
theorem dX12_count_76 : decode cX12_count 76 = .ok (.iload_n 1, 1) := by decide +kernel
theorem dX12_count_77 : decode cX12_count 77 = .ok (.iaload, 1) := by decide +kernel
theorem dX12_count_78 : decode cX12_count 78 = .ok (.ireturn, 1) := by decide +kernel
theorem dX12_count_79 : decode cX12_count 79 = .ok (.iconst 0, 1) := by decide +kernel
theorem dX12_count_80 : decode cX12_count 80 = .ok (.istore_n 3, 1) := by decide +kernel
theorem dX12_count_81 : decode cX12_count 81 = .ok (.iload_n 3, 1) := by decide +kernel
theorem dX12_count_82 : decode cX12_count 82 = .ok (.aload_n 0, 1) := by decide +kernel
theorem dX12_count_83 : decode cX12_count 83 = .ok (.getfield 9, 3) := by decide +kernel
theorem dX12_count_86 : decode cX12_count 86 = .ok (.iconst 0, 1) := by decide +kernel
theorem dX12_count_87 : decode cX12_count 87 = .ok (.iaload, 1) := by decide +kernel
theorem dX12_count_88 : decode cX12_count 88 = .ok (.if_icmp .ge 22, 3) := by decide +kernel
theorem dX12_count_91 : decode cX12_count 91 = .ok (.iload_n 2, 1) := by decide +kernel
theorem dX12_count_92 : decode cX12_count 92 = .ok (.aload_n 0, 1) := by decide +kernel
theorem dX12_count_93 : decode cX12_count 93 = .ok (.getfield 9, 3) := by decide +kernel
theorem dX12_count_96 : decode cX12_count 96 = .ok (.iload_n 3, 1) := by decide +kernel
theorem dX12_count_97 : decode cX12_count 97 = .ok (.iconst 2, 1) := by decide +kernel
theorem dX12_count_98 : decode cX12_count 98 = .ok (.invokestatic 66, 3) := by decide +kernel
theorem dX12_count_101 : decode cX12_count 101 = .ok (.iaload, 1) := by decide +kernel
theorem dX12_count_102 : decode cX12_count 102 = .ok (.iadd, 1) := by decide +kernel
theorem dX12_count_103 : decode cX12_count 103 = .ok (.istore_n 2, 1) := by decide +kernel
theorem dX12_count_104 : decode cX12_count 104 = .ok (.iinc 3 1, 3) := by decide +kernel
theorem dX12_count_107 : decode cX12_count 107 = .ok (.goto (-26), 3) := by decide +kernel
theorem dX12_count_110 : decode cX12_count 110 = .ok (.iload_n 2, 1) := by decide +kernel
theorem dX12_count_111 : decode cX12_count 111 = .ok (.ireturn, 1) := by decide +kernel
theorem dX12_count_112 : decode cX12_count 112 = .ok (.iconst 0, 1) := by decide +kernel
theorem dX12_count_113 : decode cX12_count 113 = .ok (.istore_n 3, 1) := by decide +kernel
theorem dX12_count_114 : decode cX12_count 114 = .ok (.iload_n 3, 1) := by decide +kernel
theorem dX12_count_115 : decode cX12_count 115 = .ok (.aload_n 0, 1) := by decide +kernel
theorem dX12_count_116 : decode cX12_count 116 = .ok (.getfield 9, 3) := by decide +kernel
theorem dX12_count_119 : decode cX12_count 119 = .ok (.iconst 0, 1) := by decide +kernel
theorem dX12_count_120 : decode cX12_count 120 = .ok (.iaload, 1) := by decide +kernel
theorem dX12_count_121 : decode cX12_count 121 = .ok (.if_icmp .ge 32, 3) := by decide +kernel
theorem dX12_count_124 : decode cX12_count 124 = .ok (.iload_n 2, 1) := by decide +kernel
theorem dX12_count_125 : decode cX12_count 125 = .ok (.aload_n 0, 1) := by decide +kernel
theorem dX12_count_126 : decode cX12_count 126 = .ok (.getfield 9, 3) := by decide +kernel
theorem dX12_count_129 : decode cX12_count 129 = .ok (.iload_n 3, 1) := by decide +kernel
theorem dX12_count_130 : decode cX12_count 130 = .ok (.iconst 0, 1) := by decide +kernel
theorem dX12_count_131 : decode cX12_count 131 = .ok (.invokestatic 66, 3) := by decide +kernel
theorem dX12_count_134 : decode cX12_count 134 = .ok (.iaload, 1) := by decide +kernel
theorem dX12_count_135 : decode cX12_count 135 = .ok (.bipush 6, 2) := by decide +kernel
theorem dX12_count_137 : decode cX12_count 137 = .ok (.if_icmp .ne 7, 3) := by decide +kernel
theorem dX12_count_140 : decode cX12_count 140 = .ok (.iconst 1, 1) := by decide +kernel
theorem dX12_count_141 : decode cX12_count 141 = .ok (.goto 4, 3) := by decide +kernel
theorem dX12_count_144 : decode cX12_count 144 = .ok (.iconst 0, 1) := by decide +kernel
theorem dX12_count_145 : decode cX12_count 145 = .ok (.iadd, 1) := by decide +kernel
theorem dX12_count_146 : decode cX12_count 146 = .ok (.istore_n 2, 1) := by decide +kernel
theorem dX12_count_147 : decode cX12_count 147 = .ok (.iinc 3 1, 3) := by decide +kernel
theorem dX12_count_150 : decode cX12_count 150 = .ok (.goto (-36), 3) := by decide +kernel
theorem dX12_count_153 : decode cX12_count 153 = .ok (.iload_n 2, 1) := by decide +kernel
theorem dX12_count_154 : decode cX12_count 154 = .ok (.ireturn, 1) := by decide +kernel
theorem dX12_count_155 : decode cX12_count 155 = .ok (.aload_n 0, 1) := by decide +kernel
theorem dX12_count_156 : decode cX12_count 156 = .ok (.invokevirtual 182, 3) := by decide +kernel
theorem dX12_count_159 : decode cX12_count 159 = .ok (.ireturn, 1) := by decide +kernel
theorem dX12_count_160 : decode cX12_count 160 = .ok (.iconst 0, 1) := by decide +kernel
theorem dX12_count_161 : decode cX12_count 161 = .ok (.istore_n 3, 1) := by decide +kernel
theorem dX12_count_162 : decode cX12_count 162 = .ok (.iload_n 3, 1) := by decide +kernel
theorem dX12_count_163 : decode cX12_count 163 = .ok (.aload_n 0, 1) := by decide +kernel
theorem dX12_count_164 : decode cX12_count 164 = .ok (.getfield 9, 3) := by decide +kernel
theorem dX12_count_167 : decode cX12_count 167 = .ok (.iconst 1, 1) := by decide +kernel
theorem dX12_count_168 : decode cX12_count 168 = .ok (.iaload, 1) := by decide +kernel
theorem dX12_count_169 : decode cX12_count 169 = .ok (.if_icmp .ge 43, 3) := by decide +kernel
theorem dX12_count_172 : decode cX12_count 172 = .ok (.iconst 0, 1) := by decide +kernel
theorem dX12_count_173 : decode cX12_count 173 = .ok (.istore 4, 2) := by decide +kernel
theorem dX12_count_175 : decode cX12_count 175 = .ok (.iload 4, 2) := by decide +kernel
theorem dX12_count_177 : decode cX12_count 177 = .ok (.aload_n 0, 1) := by decide +kernel
theorem dX12_count_178 : decode cX12_count 178 = .ok (.getfield 9, 3) := by decide +kernel
theorem dX12_count_181 : decode cX12_count 181 = .ok (.iconst 0, 1) := by decide +kernel
theorem dX12_count_182 : decode cX12_count 182 = .ok (.iaload, 1) := by decide +kernel
theorem dX12_count_183 : decode cX12_count 183 = .ok (.if_icmp .ge 23, 3) := by decide +kernel
theorem dX12_count_186 : decode cX12_count 186 = .ok (.iload_n 2, 1) := by decide +kernel
theorem dX12_count_187 : decode cX12_count 187 = .ok (.aload_n 0, 1) := by decide +kernel
theorem dX12_count_188 : decode cX12_count 188 = .ok (.getfield 9, 3) := by decide +kernel
theorem dX12_count_191 : decode cX12_count 191 = .ok (.iload_n 3, 1) := by decide +kernel
theorem dX12_count_192 : decode cX12_count 192 = .ok (.iload 4, 2) := by decide +kernel
theorem dX12_count_194 : decode cX12_count 194 = .ok (.invokestatic 91, 3) := by decide +kernel
theorem dX12_count_197 : decode cX12_count 197 = .ok (.iaload, 1) := by decide +kernel
theorem dX12_count_198 : decode cX12_count 198 = .ok (.iadd, 1) := by decide +kernel
theorem dX12_count_199 : decode cX12_count 199 = .ok (.istore_n 2, 1) := by decide +kernel
theorem dX12_count_200 : decode cX12_count 200 = .ok (.iinc 4 1, 3) := by decide +kernel
theorem dX12_count_203 : decode cX12_count 203 = .ok (.goto (-28), 3) := by decide +kernel
theorem dX12_count_206 : decode cX12_count 206 = .ok (.iinc 3 1, 3) := by decide +kernel
theorem dX12_count_209 : decode cX12_count 209 = .ok (.goto (-47), 3) := by decide +kernel
theorem dX12_count_212 : decode cX12_count 212 = .ok (.iload_n 2, 1) := by decide +kernel
theorem dX12_count_213 : decode cX12_count 213 = .ok (.ireturn, 1) := by decide +kernel
theorem dX12_count_214 : decode cX12_count 214 = .ok (.aload_n 0, 1) := by decide +kernel
theorem dX12_count_215 : decode cX12_count 215 = .ok (.getfield 192, 3) := by decide +kernel
theorem dX12_count_218 : decode cX12_count 218 = .ok (.ireturn, 1) := by decide +kernel
theorem dX12_count_219 : decode cX12_count 219 = .ok (.aload_n 0, 1) := by decide +kernel
theorem dX12_count_220 : decode cX12_count 220 = .ok (.getfield 105, 3) := by decide +kernel
theorem dX12_count_223 : decode cX12_count 223 = .ok (.ireturn, 1) := by decide +kernel
theorem dX12_count_224 : decode cX12_count 224 = .ok (.bipush (-9), 2) := by decide +kernel
theorem dX12_count_226 : decode cX12_count 226 = .ok (.ireturn, 1) := by decide +kernel
