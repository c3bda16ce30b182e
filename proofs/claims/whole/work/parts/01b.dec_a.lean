/-! decode rows: the classes inside -/
theorem dJ9_max_7cf53_0 : decode cJ9_max_7cf53 0 = .ok (.iload_n 0, 1) := by decide +kernel
theorem dJ9_max_7cf53_1 : decode cJ9_max_7cf53 1 = .ok (.iload_n 1, 1) := by decide +kernel
theorem dJ9_max_7cf53_2 : decode cJ9_max_7cf53 2 = .ok (.if_icmp .lt 7, 3) := by decide +kernel
theorem dJ9_max_7cf53_5 : decode cJ9_max_7cf53 5 = .ok (.iload_n 0, 1) := by decide +kernel
theorem dJ9_max_7cf53_6 : decode cJ9_max_7cf53 6 = .ok (.goto 4, 3) := by decide +kernel
theorem dJ9_max_7cf53_9 : decode cJ9_max_7cf53 9 = .ok (.iload_n 1, 1) := by decide +kernel
theorem dJ9_max_7cf53_10 : decode cJ9_max_7cf53 10 = .ok (.ireturn, 1) := by decide +kernel
theorem dJ9_min_7cf53_0 : decode cJ9_min_7cf53 0 = .ok (.iload_n 0, 1) := by decide +kernel
theorem dJ9_min_7cf53_1 : decode cJ9_min_7cf53 1 = .ok (.iload_n 1, 1) := by decide +kernel
theorem dJ9_min_7cf53_2 : decode cJ9_min_7cf53 2 = .ok (.if_icmp .gt 7, 3) := by decide +kernel
theorem dJ9_min_7cf53_5 : decode cJ9_min_7cf53 5 = .ok (.iload_n 0, 1) := by decide +kernel
theorem dJ9_min_7cf53_6 : decode cJ9_min_7cf53 6 = .ok (.goto 4, 3) := by decide +kernel
theorem dJ9_min_7cf53_9 : decode cJ9_min_7cf53 9 = .ok (.iload_n 1, 1) := by decide +kernel
theorem dJ9_min_7cf53_10 : decode cJ9_min_7cf53 10 = .ok (.ireturn, 1) := by decide +kernel
theorem dX0_init_0 : decode cX0_init 0 = .ok (.aload_n 0, 1) := by decide +kernel
theorem dX0_init_1 : decode cX0_init 1 = .ok (.invokespecial 3, 3) := by decide +kernel
theorem dX0_init_4 : decode cX0_init 4 = .ok (.aload_n 0, 1) := by decide +kernel
theorem dX0_init_5 : decode cX0_init 5 = .ok (.iconst 4, 1) := by decide +kernel
theorem dX0_init_6 : decode cX0_init 6 = .ok (.newarray .int, 2) := by decide +kernel
theorem dX0_init_8 : decode cX0_init 8 = .ok (.putfield 9, 3) := by decide +kernel
theorem dX0_init_11 : decode cX0_init 11 = .ok (.aload_n 0, 1) := by decide +kernel
theorem dX0_init_12 : decode cX0_init 12 = .ok (.bipush 10, 2) := by decide +kernel
theorem dX0_init_14 : decode cX0_init 14 = .ok (.newarray .int, 2) := by decide +kernel
theorem dX0_init_16 : decode cX0_init 16 = .ok (.putfield 15, 3) := by decide +kernel
theorem dX0_init_19 : decode cX0_init 19 = .ok (.return_, 1) := by decide +kernel
theorem dX0_start_0 : decode cX0_start 0 = .ok (.aload_n 0, 1) := by decide +kernel
theorem dX0_start_1 : decode cX0_start 1 = .ok (.getfield 9, 3) := by decide +kernel
theorem dX0_start_4 : decode cX0_start 4 = .ok (.iconst 0, 1) := by decide +kernel
theorem dX0_start_5 : decode cX0_start 5 = .ok (.iload_n 1, 1) := by decide +kernel
theorem dX0_start_6 : decode cX0_start 6 = .ok (.iastore, 1) := by decide +kernel
theorem dX0_start_7 : decode cX0_start 7 = .ok (.aload_n 0, 1) := by decide +kernel
theorem dX0_start_8 : decode cX0_start 8 = .ok (.getfield 9, 3) := by decide +kernel
theorem dX0_start_11 : decode cX0_start 11 = .ok (.iconst 1, 1) := by decide +kernel
theorem dX0_start_12 : decode cX0_start 12 = .ok (.iload_n 2, 1) := by decide +kernel
theorem dX0_start_13 : decode cX0_start 13 = .ok (.iastore, 1) := by decide +kernel
theorem dX0_start_14 : decode cX0_start 14 = .ok (.aload_n 0, 1) := by decide +kernel
theorem dX0_start_15 : decode cX0_start 15 = .ok (.getfield 9, 3) := by decide +kernel
theorem dX0_start_18 : decode cX0_start 18 = .ok (.iconst 2, 1) := by decide +kernel
theorem dX0_start_19 : decode cX0_start 19 = .ok (.iload_n 3, 1) := by decide +kernel
theorem dX0_start_20 : decode cX0_start 20 = .ok (.iastore, 1) := by decide +kernel
theorem dX0_start_21 : decode cX0_start 21 = .ok (.aload_n 0, 1) := by decide +kernel
theorem dX0_start_22 : decode cX0_start 22 = .ok (.getfield 9, 3) := by decide +kernel
theorem dX0_start_25 : decode cX0_start 25 = .ok (.iconst 3, 1) := by decide +kernel
theorem dX0_start_26 : decode cX0_start 26 = .ok (.iload 4, 2) := by decide +kernel
theorem dX0_start_28 : decode cX0_start 28 = .ok (.iastore, 1) := by decide +kernel
theorem dX0_start_29 : decode cX0_start 29 = .ok (.iconst 0, 1) := by decide +kernel
theorem dX0_start_30 : decode cX0_start 30 = .ok (.istore 5, 2) := by decide +kernel
theorem dX0_start_32 : decode cX0_start 32 = .ok (.iload 5, 2) := by decide +kernel
theorem dX0_start_34 : decode cX0_start 34 = .ok (.bipush 10, 2) := by decide +kernel
theorem dX0_start_36 : decode cX0_start 36 = .ok (.if_icmp .ge 17, 3) := by decide +kernel
theorem dX0_start_39 : decode cX0_start 39 = .ok (.aload_n 0, 1) := by decide +kernel
theorem dX0_start_40 : decode cX0_start 40 = .ok (.getfield 15, 3) := by decide +kernel
theorem dX0_start_43 : decode cX0_start 43 = .ok (.iload 5, 2) := by decide +kernel
theorem dX0_start_45 : decode cX0_start 45 = .ok (.iconst 1, 1) := by decide +kernel
theorem dX0_start_46 : decode cX0_start 46 = .ok (.iastore, 1) := by decide +kernel
theorem dX0_start_47 : decode cX0_start 47 = .ok (.iinc 5 1, 3) := by decide +kernel
theorem dX0_start_50 : decode cX0_start 50 = .ok (.goto (-18), 3) := by decide +kernel
theorem dX0_start_53 : decode cX0_start 53 = .ok (.return_, 1) := by decide +kernel
theorem dX0_become_0 : decode cX0_become 0 = .ok (.aload_n 1, 1) := by decide +kernel
theorem dX0_become_1 : decode cX0_become 1 = .ok (.getfield 9, 3) := by decide +kernel
theorem dX0_become_4 : decode cX0_become 4 = .ok (.iconst 0, 1) := by decide +kernel
theorem dX0_become_5 : decode cX0_become 5 = .ok (.aload_n 0, 1) := by decide +kernel
theorem dX0_become_6 : decode cX0_become 6 = .ok (.getfield 9, 3) := by decide +kernel
theorem dX0_become_9 : decode cX0_become 9 = .ok (.iconst 0, 1) := by decide +kernel
theorem dX0_become_10 : decode cX0_become 10 = .ok (.aload_n 0, 1) := by decide +kernel
theorem dX0_become_11 : decode cX0_become 11 = .ok (.getfield 9, 3) := by decide +kernel
theorem dX0_become_14 : decode cX0_become 14 = .ok (.arraylength, 1) := by decide +kernel
theorem dX0_become_15 : decode cX0_become 15 = .ok (.invokestatic 18, 3) := by decide +kernel
theorem dX0_become_18 : decode cX0_become 18 = .ok (.aload_n 1, 1) := by decide +kernel
theorem dX0_become_19 : decode cX0_become 19 = .ok (.getfield 15, 3) := by decide +kernel
theorem dX0_become_22 : decode cX0_become 22 = .ok (.iconst 0, 1) := by decide +kernel
theorem dX0_become_23 : decode cX0_become 23 = .ok (.aload_n 0, 1) := by decide +kernel
theorem dX0_become_24 : decode cX0_become 24 = .ok (.getfield 15, 3) := by decide +kernel
theorem dX0_become_27 : decode cX0_become 27 = .ok (.iconst 0, 1) := by decide +kernel
theorem dX0_become_28 : decode cX0_become 28 = .ok (.bipush 10, 2) := by decide +kernel
theorem dX0_become_30 : decode cX0_become 30 = .ok (.invokestatic 18, 3) := by decide +kernel
theorem dX0_become_33 : decode cX0_become 33 = .ok (.return_, 1) := by decide +kernel
theorem dX1_init_0 : decode cX1_init 0 = .ok (.aload_n 0, 1) := by decide +kernel
theorem dX1_init_1 : decode cX1_init 1 = .ok (.invokespecial 3, 3) := by decide +kernel
theorem dX1_init_4 : decode cX1_init 4 = .ok (.aload_n 0, 1) := by decide +kernel
theorem dX1_init_5 : decode cX1_init 5 = .ok (.iconst 0, 1) := by decide +kernel
theorem dX1_init_6 : decode cX1_init 6 = .ok (.putfield 9, 3) := by decide +kernel
theorem dX1_init_9 : decode cX1_init 9 = .ok (.aload_n 0, 1) := by decide +kernel
theorem dX1_init_10 : decode cX1_init 10 = .ok (.bipush 10, 2) := by decide +kernel
theorem dX1_init_12 : decode cX1_init 12 = .ok (.newarray .int, 2) := by decide +kernel
theorem dX1_init_14 : decode cX1_init 14 = .ok (.putfield 15, 3) := by decide +kernel
theorem dX1_init_17 : decode cX1_init 17 = .ok (.aload_n 0, 1) := by decide +kernel
theorem dX1_init_18 : decode cX1_init 18 = .ok (.bipush 10, 2) := by decide +kernel
theorem dX1_init_20 : decode cX1_init 20 = .ok (.newarray .int, 2) := by decide +kernel
theorem dX1_init_22 : decode cX1_init 22 = .ok (.putfield 19, 3) := by decide +kernel
theorem dX1_init_25 : decode cX1_init 25 = .ok (.aload_n 0, 1) := by decide +kernel
theorem dX1_init_26 : decode cX1_init 26 = .ok (.bipush 10, 2) := by decide +kernel
theorem dX1_init_28 : decode cX1_init 28 = .ok (.newarray .int, 2) := by decide +kernel
theorem dX1_init_30 : decode cX1_init 30 = .ok (.putfield 22, 3) := by decide +kernel
theorem dX1_init_33 : decode cX1_init 33 = .ok (.return_, 1) := by decide +kernel
theorem dX1_has_0 : decode cX1_has 0 = .ok (.iload_n 1, 1) := by decide +kernel
theorem dX1_has_1 : decode cX1_has 1 = .ok (.ifCond .lt 15, 3) := by decide +kernel
theorem dX1_has_4 : decode cX1_has 4 = .ok (.iload_n 1, 1) := by decide +kernel
theorem dX1_has_5 : decode cX1_has 5 = .ok (.aload_n 0, 1) := by decide +kernel
theorem dX1_has_6 : decode cX1_has 6 = .ok (.getfield 9, 3) := by decide +kernel
theorem dX1_has_9 : decode cX1_has 9 = .ok (.if_icmp .ge 7, 3) := by decide +kernel
theorem dX1_has_12 : decode cX1_has 12 = .ok (.iconst 1, 1) := by decide +kernel
theorem dX1_has_13 : decode cX1_has 13 = .ok (.goto 4, 3) := by decide +kernel
theorem dX1_has_16 : decode cX1_has 16 = .ok (.iconst 0, 1) := by decide +kernel
theorem dX1_has_17 : decode cX1_has 17 = .ok (.ireturn, 1) := by decide +kernel
theorem dX1_add_0 : decode cX1_add 0 = .ok (.aload_n 0, 1) := by decide +kernel
theorem dX1_add_1 : decode cX1_add 1 = .ok (.getfield 9, 3) := by decide +kernel
theorem dX1_add_4 : decode cX1_add 4 = .ok (.bipush 10, 2) := by decide +kernel
theorem dX1_add_6 : decode cX1_add 6 = .ok (.if_icmp .ge 43, 3) := by decide +kernel
theorem dX1_add_9 : decode cX1_add 9 = .ok (.aload_n 0, 1) := by decide +kernel
theorem dX1_add_10 : decode cX1_add 10 = .ok (.getfield 15, 3) := by decide +kernel
theorem dX1_add_13 : decode cX1_add 13 = .ok (.aload_n 0, 1) := by decide +kernel
theorem dX1_add_14 : decode cX1_add 14 = .ok (.getfield 9, 3) := by decide +kernel
theorem dX1_add_17 : decode cX1_add 17 = .ok (.iload_n 1, 1) := by decide +kernel
theorem dX1_add_18 : decode cX1_add 18 = .ok (.iastore, 1) := by decide +kernel
theorem dX1_add_19 : decode cX1_add 19 = .ok (.aload_n 0, 1) := by decide +kernel
theorem dX1_add_20 : decode cX1_add 20 = .ok (.getfield 19, 3) := by decide +kernel
theorem dX1_add_23 : decode cX1_add 23 = .ok (.aload_n 0, 1) := by decide +kernel
theorem dX1_add_24 : decode cX1_add 24 = .ok (.getfield 9, 3) := by decide +kernel
theorem dX1_add_27 : decode cX1_add 27 = .ok (.iload_n 2, 1) := by decide +kernel
theorem dX1_add_28 : decode cX1_add 28 = .ok (.iastore, 1) := by decide +kernel
theorem dX1_add_29 : decode cX1_add 29 = .ok (.aload_n 0, 1) := by decide +kernel
theorem dX1_add_30 : decode cX1_add 30 = .ok (.getfield 22, 3) := by decide +kernel
theorem dX1_add_33 : decode cX1_add 33 = .ok (.aload_n 0, 1) := by decide +kernel
theorem dX1_add_34 : decode cX1_add 34 = .ok (.getfield 9, 3) := by decide +kernel
theorem dX1_add_37 : decode cX1_add 37 = .ok (.iload_n 3, 1) := by decide +kernel
theorem dX1_add_38 : decode cX1_add 38 = .ok (.iastore, 1) := by decide +kernel
theorem dX1_add_39 : decode cX1_add 39 = .ok (.aload_n 0, 1) := by decide +kernel
theorem dX1_add_40 : decode cX1_add 40 = .ok (.dup, 1) := by decide +kernel
theorem dX1_add_41 : decode cX1_add 41 = .ok (.getfield 9, 3) := by decide +kernel
theorem dX1_add_44 : decode cX1_add 44 = .ok (.iconst 1, 1) := by decide +kernel
theorem dX1_add_45 : decode cX1_add 45 = .ok (.iadd, 1) := by decide +kernel
theorem dX1_add_46 : decode cX1_add 46 = .ok (.putfield 9, 3) := by decide +kernel
theorem dX1_add_49 : decode cX1_add 49 = .ok (.return_, 1) := by decide +kernel
theorem dX1_become_0 : decode cX1_become 0 = .ok (.aload_n 0, 1) := by decide +kernel
theorem dX1_become_1 : decode cX1_become 1 = .ok (.aload_n 1, 1) := by decide +kernel
theorem dX1_become_2 : decode cX1_become 2 = .ok (.getfield 9, 3) := by decide +kernel
theorem dX1_become_5 : decode cX1_become 5 = .ok (.putfield 9, 3) := by decide +kernel
theorem dX1_become_8 : decode cX1_become 8 = .ok (.aload_n 1, 1) := by decide +kernel
theorem dX1_become_9 : decode cX1_become 9 = .ok (.getfield 15, 3) := by decide +kernel
theorem dX1_become_12 : decode cX1_become 12 = .ok (.iconst 0, 1) := by decide +kernel
theorem dX1_become_13 : decode cX1_become 13 = .ok (.aload_n 0, 1) := by decide +kernel
theorem dX1_become_14 : decode cX1_become 14 = .ok (.getfield 15, 3) := by decide +kernel
theorem dX1_become_17 : decode cX1_become 17 = .ok (.iconst 0, 1) := by decide +kernel
theorem dX1_become_18 : decode cX1_become 18 = .ok (.bipush 10, 2) := by decide +kernel
theorem dX1_become_20 : decode cX1_become 20 = .ok (.invokestatic 25, 3) := by decide +kernel
theorem dX1_become_23 : decode cX1_become 23 = .ok (.aload_n 1, 1) := by decide +kernel
theorem dX1_become_24 : decode cX1_become 24 = .ok (.getfield 19, 3) := by decide +kernel
theorem dX1_become_27 : decode cX1_become 27 = .ok (.iconst 0, 1) := by decide +kernel
theorem dX1_become_28 : decode cX1_become 28 = .ok (.aload_n 0, 1) := by decide +kernel
theorem dX1_become_29 : decode cX1_become 29 = .ok (.getfield 19, 3) := by decide +kernel
theorem dX1_become_32 : decode cX1_become 32 = .ok (.iconst 0, 1) := by decide +kernel
theorem dX1_become_33 : decode cX1_become 33 = .ok (.bipush 10, 2) := by decide +kernel
theorem dX1_become_35 : decode cX1_become 35 = .ok (.invokestatic 25, 3) := by decide +kernel
theorem dX1_become_38 : decode cX1_become 38 = .ok (.aload_n 1, 1) := by decide +kernel
theorem dX1_become_39 : decode cX1_become 39 = .ok (.getfield 22, 3) := by decide +kernel
theorem dX1_become_42 : decode cX1_become 42 = .ok (.iconst 0, 1) := by decide +kernel
theorem dX1_become_43 : decode cX1_become 43 = .ok (.aload_n 0, 1) := by decide +kernel
theorem dX1_become_44 : decode cX1_become 44 = .ok (.getfield 22, 3) := by decide +kernel
theorem dX1_become_47 : decode cX1_become 47 = .ok (.iconst 0, 1) := by decide +kernel
theorem dX1_become_48 : decode cX1_become 48 = .ok (.bipush 10, 2) := by decide +kernel
theorem dX1_become_50 : decode cX1_become 50 = .ok (.invokestatic 25, 3) := by decide +kernel
theorem dX1_become_53 : decode cX1_become 53 = .ok (.return_, 1) := by decide +kernel
theorem dX1_become__0 : decode cX1_become_ 0 = .ok (.aload_n 0, 1) := by decide +kernel
theorem dX1_become__1 : decode cX1_become_ 1 = .ok (.iload_n 1, 1) := by decide +kernel
theorem dX1_become__2 : decode cX1_become_ 2 = .ok (.invokevirtual 31, 3) := by decide +kernel
theorem dX1_become__5 : decode cX1_become_ 5 = .ok (.ifCond .eq 17, 3) := by decide +kernel
theorem dX1_become__8 : decode cX1_become_ 8 = .ok (.aload_n 0, 1) := by decide +kernel
theorem dX1_become__9 : decode cX1_become_ 9 = .ok (.getfield 15, 3) := by decide +kernel
theorem dX1_become__12 : decode cX1_become_ 12 = .ok (.iload_n 1, 1) := by decide +kernel
theorem dX1_become__13 : decode cX1_become_ 13 = .ok (.iload_n 2, 1) := by decide +kernel
theorem dX1_become__14 : decode cX1_become_ 14 = .ok (.iastore, 1) := by decide +kernel
theorem dX1_become__15 : decode cX1_become_ 15 = .ok (.aload_n 0, 1) := by decide +kernel
theorem dX1_become__16 : decode cX1_become_ 16 = .ok (.getfield 19, 3) := by decide +kernel
theorem dX1_become__19 : decode cX1_become_ 19 = .ok (.iload_n 1, 1) := by decide +kernel
theorem dX1_become__20 : decode cX1_become_ 20 = .ok (.iload_n 3, 1) := by decide +kernel
theorem dX1_become__21 : decode cX1_become_ 21 = .ok (.iastore, 1) := by decide +kernel
theorem dX1_become__22 : decode cX1_become_ 22 = .ok (.return_, 1) := by decide +kernel
theorem dX1_exchange_0 : decode cX1_exchange 0 = .ok (.aload_n 0, 1) := by decide +kernel
theorem dX1_exchange_1 : decode cX1_exchange 1 = .ok (.iload_n 1, 1) := by decide +kernel
theorem dX1_exchange_2 : decode cX1_exchange 2 = .ok (.invokevirtual 31, 3) := by decide +kernel
theorem dX1_exchange_5 : decode cX1_exchange 5 = .ok (.ifCond .eq 38, 3) := by decide +kernel
theorem dX1_exchange_8 : decode cX1_exchange 8 = .ok (.aload_n 0, 1) := by decide +kernel
theorem dX1_exchange_9 : decode cX1_exchange 9 = .ok (.iload_n 2, 1) := by decide +kernel
theorem dX1_exchange_10 : decode cX1_exchange 10 = .ok (.invokevirtual 31, 3) := by decide +kernel
theorem dX1_exchange_13 : decode cX1_exchange 13 = .ok (.ifCond .eq 30, 3) := by decide +kernel
theorem dX1_exchange_16 : decode cX1_exchange 16 = .ok (.aload_n 0, 1) := by decide +kernel
theorem dX1_exchange_17 : decode cX1_exchange 17 = .ok (.getfield 15, 3) := by decide +kernel
theorem dX1_exchange_20 : decode cX1_exchange 20 = .ok (.iload_n 1, 1) := by decide +kernel
theorem dX1_exchange_21 : decode cX1_exchange 21 = .ok (.iload_n 2, 1) := by decide +kernel
theorem dX1_exchange_22 : decode cX1_exchange 22 = .ok (.invokestatic 35, 3) := by decide +kernel
theorem dX1_exchange_25 : decode cX1_exchange 25 = .ok (.aload_n 0, 1) := by decide +kernel
theorem dX1_exchange_26 : decode cX1_exchange 26 = .ok (.getfield 19, 3) := by decide +kernel
theorem dX1_exchange_29 : decode cX1_exchange 29 = .ok (.iload_n 1, 1) := by decide +kernel
theorem dX1_exchange_30 : decode cX1_exchange 30 = .ok (.iload_n 2, 1) := by decide +kernel
theorem dX1_exchange_31 : decode cX1_exchange 31 = .ok (.invokestatic 35, 3) := by decide +kernel
theorem dX1_exchange_34 : decode cX1_exchange 34 = .ok (.aload_n 0, 1) := by decide +kernel
theorem dX1_exchange_35 : decode cX1_exchange 35 = .ok (.getfield 22, 3) := by decide +kernel
theorem dX1_exchange_38 : decode cX1_exchange 38 = .ok (.iload_n 1, 1) := by decide +kernel
theorem dX1_exchange_39 : decode cX1_exchange 39 = .ok (.iload_n 2, 1) := by decide +kernel
theorem dX1_exchange_40 : decode cX1_exchange 40 = .ok (.invokestatic 35, 3) := by decide +kernel
theorem dX1_exchange_43 : decode cX1_exchange 43 = .ok (.return_, 1) := by decide +kernel
theorem dX1_exchange__0 : decode cX1_exchange_ 0 = .ok (.aload_n 0, 1) := by decide +kernel
theorem dX1_exchange__1 : decode cX1_exchange_ 1 = .ok (.iload_n 1, 1) := by decide +kernel
theorem dX1_exchange__2 : decode cX1_exchange_ 2 = .ok (.iaload, 1) := by decide +kernel
theorem dX1_exchange__3 : decode cX1_exchange_ 3 = .ok (.istore_n 3, 1) := by decide +kernel
theorem dX1_exchange__4 : decode cX1_exchange_ 4 = .ok (.aload_n 0, 1) := by decide +kernel
theorem dX1_exchange__5 : decode cX1_exchange_ 5 = .ok (.iload_n 1, 1) := by decide +kernel
theorem dX1_exchange__6 : decode cX1_exchange_ 6 = .ok (.aload_n 0, 1) := by decide +kernel
theorem dX1_exchange__7 : decode cX1_exchange_ 7 = .ok (.iload_n 2, 1) := by decide +kernel
theorem dX1_exchange__8 : decode cX1_exchange_ 8 = .ok (.iaload, 1) := by decide +kernel
theorem dX1_exchange__9 : decode cX1_exchange_ 9 = .ok (.iastore, 1) := by decide +kernel
theorem dX1_exchange__10 : decode cX1_exchange_ 10 = .ok (.aload_n 0, 1) := by decide +kernel
theorem dX1_exchange__11 : decode cX1_exchange_ 11 = .ok (.iload_n 2, 1) := by decide +kernel
theorem dX1_exchange__12 : decode cX1_exchange_ 12 = .ok (.iload_n 3, 1) := by decide +kernel
theorem dX1_exchange__13 : decode cX1_exchange_ 13 = .ok (.iastore, 1) := by decide +kernel
theorem dX1_exchange__14 : decode cX1_exchange_ 14 = .ok (.return_, 1) := by decide +kernel
theorem dX1_remove_0 : decode cX1_remove 0 = .ok (.aload_n 0, 1) := by decide +kernel
theorem dX1_remove_1 : decode cX1_remove 1 = .ok (.iload_n 1, 1) := by decide +kernel
theorem dX1_remove_2 : decode cX1_remove 2 = .ok (.invokevirtual 31, 3) := by decide +kernel
theorem dX1_remove_5 : decode cX1_remove 5 = .ok (.ifCond .ne 4, 3) := by decide +kernel
theorem dX1_remove_8 : decode cX1_remove 8 = .ok (.return_, 1) := by decide +kernel
theorem dX1_remove_9 : decode cX1_remove 9 = .ok (.iload_n 1, 1) := by decide +kernel
theorem dX1_remove_10 : decode cX1_remove 10 = .ok (.istore_n 2, 1) := by decide +kernel
theorem dX1_remove_11 : decode cX1_remove 11 = .ok (.iload_n 2, 1) := by decide +kernel
theorem dX1_remove_12 : decode cX1_remove 12 = .ok (.iconst 1, 1) := by decide +kernel
theorem dX1_remove_13 : decode cX1_remove 13 = .ok (.iadd, 1) := by decide +kernel
theorem dX1_remove_14 : decode cX1_remove 14 = .ok (.aload_n 0, 1) := by decide +kernel
theorem dX1_remove_15 : decode cX1_remove 15 = .ok (.getfield 9, 3) := by decide +kernel
theorem dX1_remove_18 : decode cX1_remove 18 = .ok (.if_icmp .ge 51, 3) := by decide +kernel
theorem dX1_remove_21 : decode cX1_remove 21 = .ok (.aload_n 0, 1) := by decide +kernel
theorem dX1_remove_22 : decode cX1_remove 22 = .ok (.getfield 15, 3) := by decide +kernel
theorem dX1_remove_25 : decode cX1_remove 25 = .ok (.iload_n 2, 1) := by decide +kernel
theorem dX1_remove_26 : decode cX1_remove 26 = .ok (.aload_n 0, 1) := by decide +kernel
theorem dX1_remove_27 : decode cX1_remove 27 = .ok (.getfield 15, 3) := by decide +kernel
theorem dX1_remove_30 : decode cX1_remove 30 = .ok (.iload_n 2, 1) := by decide +kernel
theorem dX1_remove_31 : decode cX1_remove 31 = .ok (.iconst 1, 1) := by decide +kernel
theorem dX1_remove_32 : decode cX1_remove 32 = .ok (.iadd, 1) := by decide +kernel
theorem dX1_remove_33 : decode cX1_remove 33 = .ok (.iaload, 1) := by decide +kernel
theorem dX1_remove_34 : decode cX1_remove 34 = .ok (.iastore, 1) := by decide +kernel
theorem dX1_remove_35 : decode cX1_remove 35 = .ok (.aload_n 0, 1) := by decide +kernel
theorem dX1_remove_36 : decode cX1_remove 36 = .ok (.getfield 19, 3) := by decide +kernel
theorem dX1_remove_39 : decode cX1_remove 39 = .ok (.iload_n 2, 1) := by decide +kernel
theorem dX1_remove_40 : decode cX1_remove 40 = .ok (.aload_n 0, 1) := by decide +kernel
theorem dX1_remove_41 : decode cX1_remove 41 = .ok (.getfield 19, 3) := by decide +kernel
theorem dX1_remove_44 : decode cX1_remove 44 = .ok (.iload_n 2, 1) := by decide +kernel
theorem dX1_remove_45 : decode cX1_remove 45 = .ok (.iconst 1, 1) := by decide +kernel
theorem dX1_remove_46 : decode cX1_remove 46 = .ok (.iadd, 1) := by decide +kernel
theorem dX1_remove_47 : decode cX1_remove 47 = .ok (.iaload, 1) := by decide +kernel
theorem dX1_remove_48 : decode cX1_remove 48 = .ok (.iastore, 1) := by decide +kernel
theorem dX1_remove_49 : decode cX1_remove 49 = .ok (.aload_n 0, 1) := by decide +kernel
theorem dX1_remove_50 : decode cX1_remove 50 = .ok (.getfield 22, 3) := by decide +kernel
theorem dX1_remove_53 : decode cX1_remove 53 = .ok (.iload_n 2, 1) := by decide +kernel
theorem dX1_remove_54 : decode cX1_remove 54 = .ok (.aload_n 0, 1) := by decide +kernel
theorem dX1_remove_55 : decode cX1_remove 55 = .ok (.getfield 22, 3) := by decide +kernel
theorem dX1_remove_58 : decode cX1_remove 58 = .ok (.iload_n 2, 1) := by decide +kernel
theorem dX1_remove_59 : decode cX1_remove 59 = .ok (.iconst 1, 1) := by decide +kernel
theorem dX1_remove_60 : decode cX1_remove 60 = .ok (.iadd, 1) := by decide +kernel
theorem dX1_remove_61 : decode cX1_remove 61 = .ok (.iaload, 1) := by decide +kernel
theorem dX1_remove_62 : decode cX1_remove 62 = .ok (.iastore, 1) := by decide +kernel
theorem dX1_remove_63 : decode cX1_remove 63 = .ok (.iinc 2 1, 3) := by decide +kernel
theorem dX1_remove_66 : decode cX1_remove 66 = .ok (.goto (-55), 3) := by decide +kernel
theorem dX1_remove_69 : decode cX1_remove 69 = .ok (.aload_n 0, 1) := by decide +kernel
theorem dX1_remove_70 : decode cX1_remove 70 = .ok (.dup, 1) := by decide +kernel
theorem dX1_remove_71 : decode cX1_remove 71 = .ok (.getfield 9, 3) := by decide +kernel
theorem dX1_remove_74 : decode cX1_remove 74 = .ok (.iconst 1, 1) := by decide +kernel
theorem dX1_remove_75 : decode cX1_remove 75 = .ok (.isub, 1) := by decide +kernel
theorem dX1_remove_76 : decode cX1_remove 76 = .ok (.putfield 9, 3) := by decide +kernel
theorem dX1_remove_79 : decode cX1_remove 79 = .ok (.return_, 1) := by decide +kernel
theorem dX1_untried_0 : decode cX1_untried 0 = .ok (.aload_n 0, 1) := by decide +kernel
theorem dX1_untried_1 : decode cX1_untried 1 = .ok (.getfield 22, 3) := by decide +kernel
theorem dX1_untried_4 : decode cX1_untried 4 = .ok (.iload_n 1, 1) := by decide +kernel
theorem dX1_untried_5 : decode cX1_untried 5 = .ok (.iaload, 1) := by decide +kernel
theorem dX1_untried_6 : decode cX1_untried 6 = .ok (.istore_n 3, 1) := by decide +kernel
theorem dX1_untried_7 : decode cX1_untried 7 = .ok (.aload_n 0, 1) := by decide +kernel
theorem dX1_untried_8 : decode cX1_untried 8 = .ok (.getfield 19, 3) := by decide +kernel
theorem dX1_untried_11 : decode cX1_untried 11 = .ok (.iload_n 1, 1) := by decide +kernel
theorem dX1_untried_12 : decode cX1_untried 12 = .ok (.iaload, 1) := by decide +kernel
theorem dX1_untried_13 : decode cX1_untried 13 = .ok (.istore 4, 2) := by decide +kernel
theorem dX1_untried_15 : decode cX1_untried 15 = .ok (.aload_n 0, 1) := by decide +kernel
theorem dX1_untried_16 : decode cX1_untried 16 = .ok (.getfield 15, 3) := by decide +kernel
theorem dX1_untried_19 : decode cX1_untried 19 = .ok (.iload_n 1, 1) := by decide +kernel
theorem dX1_untried_20 : decode cX1_untried 20 = .ok (.iaload, 1) := by decide +kernel
theorem dX1_untried_21 : decode cX1_untried 21 = .ok (.tableswitch 143 0 5 #[39, 51, 66, 78, 93, 110], 39) := by decide +kernel
theorem dX1_untried_60 : decode cX1_untried 60 = .ok (.iload_n 3, 1) := by decide +kernel
theorem dX1_untried_61 : decode cX1_untried 61 = .ok (.bipush 20, 2) := by decide +kernel
theorem dX1_untried_63 : decode cX1_untried 63 = .ok (.aload_n 2, 1) := by decide +kernel
theorem dX1_untried_64 : decode cX1_untried 64 = .ok (.getfield 39, 3) := by decide +kernel
theorem dX1_untried_67 : decode cX1_untried 67 = .ok (.iconst 0, 1) := by decide +kernel
theorem dX1_untried_68 : decode cX1_untried 68 = .ok (.iaload, 1) := by decide +kernel
theorem dX1_untried_69 : decode cX1_untried 69 = .ok (.isub, 1) := by decide +kernel
theorem dX1_untried_70 : decode cX1_untried 70 = .ok (.imul, 1) := by decide +kernel
theorem dX1_untried_71 : decode cX1_untried 71 = .ok (.ireturn, 1) := by decide +kernel
theorem dX1_untried_72 : decode cX1_untried 72 = .ok (.iload_n 3, 1) := by decide +kernel
theorem dX1_untried_73 : decode cX1_untried 73 = .ok (.bipush 20, 2) := by decide +kernel
theorem dX1_untried_75 : decode cX1_untried 75 = .ok (.aload_n 2, 1) := by decide +kernel
theorem dX1_untried_76 : decode cX1_untried 76 = .ok (.getfield 39, 3) := by decide +kernel
theorem dX1_untried_79 : decode cX1_untried 79 = .ok (.iconst 0, 1) := by decide +kernel
theorem dX1_untried_80 : decode cX1_untried 80 = .ok (.iaload, 1) := by decide +kernel
theorem dX1_untried_81 : decode cX1_untried 81 = .ok (.isub, 1) := by decide +kernel
theorem dX1_untried_82 : decode cX1_untried 82 = .ok (.iload 4, 2) := by decide +kernel
theorem dX1_untried_84 : decode cX1_untried 84 = .ok (.isub, 1) := by decide +kernel
theorem dX1_untried_85 : decode cX1_untried 85 = .ok (.imul, 1) := by decide +kernel
theorem dX1_untried_86 : decode cX1_untried 86 = .ok (.ireturn, 1) := by decide +kernel
theorem dX1_untried_87 : decode cX1_untried 87 = .ok (.iload_n 3, 1) := by decide +kernel
theorem dX1_untried_88 : decode cX1_untried 88 = .ok (.bipush 20, 2) := by decide +kernel
theorem dX1_untried_90 : decode cX1_untried 90 = .ok (.aload_n 2, 1) := by decide +kernel
theorem dX1_untried_91 : decode cX1_untried 91 = .ok (.getfield 39, 3) := by decide +kernel
theorem dX1_untried_94 : decode cX1_untried 94 = .ok (.iconst 1, 1) := by decide +kernel
theorem dX1_untried_95 : decode cX1_untried 95 = .ok (.iaload, 1) := by decide +kernel
theorem dX1_untried_96 : decode cX1_untried 96 = .ok (.isub, 1) := by decide +kernel
theorem dX1_untried_97 : decode cX1_untried 97 = .ok (.imul, 1) := by decide +kernel
theorem dX1_untried_98 : decode cX1_untried 98 = .ok (.ireturn, 1) := by decide +kernel
theorem dX1_untried_99 : decode cX1_untried 99 = .ok (.iload_n 3, 1) := by decide +kernel
theorem dX1_untried_100 : decode cX1_untried 100 = .ok (.bipush 20, 2) := by decide +kernel
theorem dX1_untried_102 : decode cX1_untried 102 = .ok (.aload_n 2, 1) := by decide +kernel
theorem dX1_untried_103 : decode cX1_untried 103 = .ok (.getfield 39, 3) := by decide +kernel
theorem dX1_untried_106 : decode cX1_untried 106 = .ok (.iconst 1, 1) := by decide +kernel
theorem dX1_untried_107 : decode cX1_untried 107 = .ok (.iaload, 1) := by decide +kernel
theorem dX1_untried_108 : decode cX1_untried 108 = .ok (.isub, 1) := by decide +kernel
theorem dX1_untried_109 : decode cX1_untried 109 = .ok (.iload 4, 2) := by decide +kernel
theorem dX1_untried_111 : decode cX1_untried 111 = .ok (.iadd, 1) := by decide +kernel
theorem dX1_untried_112 : decode cX1_untried 112 = .ok (.imul, 1) := by decide +kernel
theorem dX1_untried_113 : decode cX1_untried 113 = .ok (.ireturn, 1) := by decide +kernel
theorem dX1_untried_114 : decode cX1_untried 114 = .ok (.iload_n 3, 1) := by decide +kernel
theorem dX1_untried_115 : decode cX1_untried 115 = .ok (.bipush 20, 2) := by decide +kernel
theorem dX1_untried_117 : decode cX1_untried 117 = .ok (.aload_n 2, 1) := by decide +kernel
theorem dX1_untried_118 : decode cX1_untried 118 = .ok (.getfield 39, 3) := by decide +kernel
theorem dX1_untried_121 : decode cX1_untried 121 = .ok (.iconst 1, 1) := by decide +kernel
theorem dX1_untried_122 : decode cX1_untried 122 = .ok (.iaload, 1) := by decide +kernel
theorem dX1_untried_123 : decode cX1_untried 123 = .ok (.isub, 1) := by decide +kernel
theorem dX1_untried_124 : decode cX1_untried 124 = .ok (.iload 4, 2) := by decide +kernel
theorem dX1_untried_126 : decode cX1_untried 126 = .ok (.iconst 2, 1) := by decide +kernel
theorem dX1_untried_127 : decode cX1_untried 127 = .ok (.idiv, 1) := by decide +kernel
theorem dX1_untried_128 : decode cX1_untried 128 = .ok (.iadd, 1) := by decide +kernel
theorem dX1_untried_129 : decode cX1_untried 129 = .ok (.imul, 1) := by decide +kernel
theorem dX1_untried_130 : decode cX1_untried 130 = .ok (.ireturn, 1) := by decide +kernel
theorem dX1_untried_131 : decode cX1_untried 131 = .ok (.aload_n 0, 1) := by decide +kernel
theorem dX1_untried_132 : decode cX1_untried 132 = .ok (.iload_n 1, 1) := by decide +kernel
theorem dX1_untried_133 : decode cX1_untried 133 = .ok (.invokevirtual 44, 3) := by decide +kernel
theorem dX1_untried_136 : decode cX1_untried 136 = .ok (.ifCond .eq 10, 3) := by decide +kernel
theorem dX1_untried_139 : decode cX1_untried 139 = .ok (.iload_n 3, 1) := by decide +kernel
theorem dX1_untried_140 : decode cX1_untried 140 = .ok (.iload 4, 2) := by decide +kernel
theorem dX1_untried_142 : decode cX1_untried 142 = .ok (.iadd, 1) := by decide +kernel
theorem dX1_untried_143 : decode cX1_untried 143 = .ok (.goto 4, 3) := by decide +kernel
theorem dX1_untried_146 : decode cX1_untried 146 = .ok (.iconst 0, 1) := by decide +kernel
theorem dX1_untried_147 : decode cX1_untried 147 = .ok (.istore 5, 2) := by decide +kernel
theorem dX1_untried_149 : decode cX1_untried 149 = .ok (.iload_n 3, 1) := by decide +kernel
theorem dX1_untried_150 : decode cX1_untried 150 = .ok (.bipush 22, 2) := by decide +kernel
theorem dX1_untried_152 : decode cX1_untried 152 = .ok (.aload_n 2, 1) := by decide +kernel
theorem dX1_untried_153 : decode cX1_untried 153 = .ok (.getfield 39, 3) := by decide +kernel
theorem dX1_untried_156 : decode cX1_untried 156 = .ok (.iconst 2, 1) := by decide +kernel
theorem dX1_untried_157 : decode cX1_untried 157 = .ok (.iaload, 1) := by decide +kernel
theorem dX1_untried_158 : decode cX1_untried 158 = .ok (.isub, 1) := by decide +kernel
theorem dX1_untried_159 : decode cX1_untried 159 = .ok (.imul, 1) := by decide +kernel
theorem dX1_untried_160 : decode cX1_untried 160 = .ok (.iload 5, 2) := by decide +kernel
theorem dX1_untried_162 : decode cX1_untried 162 = .ok (.iadd, 1) := by decide +kernel
theorem dX1_untried_163 : decode cX1_untried 163 = .ok (.ireturn, 1) := by decide +kernel
theorem dX1_untried_164 : decode cX1_untried 164 = .ok (.bipush 10, 2) := by decide +kernel
theorem dX1_untried_166 : decode cX1_untried 166 = .ok (.iconst 5, 1) := by decide +kernel
theorem dX1_untried_167 : decode cX1_untried 167 = .ok (.iload 4, 2) := by decide +kernel
theorem dX1_untried_169 : decode cX1_untried 169 = .ok (.imul, 1) := by decide +kernel
theorem dX1_untried_170 : decode cX1_untried 170 = .ok (.iadd, 1) := by decide +kernel
theorem dX1_untried_171 : decode cX1_untried 171 = .ok (.ireturn, 1) := by decide +kernel
theorem dX1_isBehindRide_0 : decode cX1_isBehindRide 0 = .ok (.iload_n 1, 1) := by decide +kernel
theorem dX1_isBehindRide_1 : decode cX1_isBehindRide 1 = .ok (.ifCond .le 21, 3) := by decide +kernel
theorem dX1_isBehindRide_4 : decode cX1_isBehindRide 4 = .ok (.aload_n 0, 1) := by decide +kernel
theorem dX1_isBehindRide_5 : decode cX1_isBehindRide 5 = .ok (.getfield 15, 3) := by decide +kernel
theorem dX1_isBehindRide_8 : decode cX1_isBehindRide 8 = .ok (.iload_n 1, 1) := by decide +kernel
theorem dX1_isBehindRide_9 : decode cX1_isBehindRide 9 = .ok (.iconst 1, 1) := by decide +kernel
theorem dX1_isBehindRide_10 : decode cX1_isBehindRide 10 = .ok (.isub, 1) := by decide +kernel
theorem dX1_isBehindRide_11 : decode cX1_isBehindRide 11 = .ok (.iaload, 1) := by decide +kernel
theorem dX1_isBehindRide_12 : decode cX1_isBehindRide 12 = .ok (.invokestatic 47, 3) := by decide +kernel
theorem dX1_isBehindRide_15 : decode cX1_isBehindRide 15 = .ok (.ifCond .eq 7, 3) := by decide +kernel
theorem dX1_isBehindRide_18 : decode cX1_isBehindRide 18 = .ok (.iconst 1, 1) := by decide +kernel
theorem dX1_isBehindRide_19 : decode cX1_isBehindRide 19 = .ok (.goto 4, 3) := by decide +kernel
theorem dX1_isBehindRide_22 : decode cX1_isBehindRide 22 = .ok (.iconst 0, 1) := by decide +kernel
theorem dX1_isBehindRide_23 : decode cX1_isBehindRide 23 = .ok (.ireturn, 1) := by decide +kernel
theorem dX1_lengths_0 : decode cX1_lengths 0 = .ok (.iconst 0, 1) := by decide +kernel
theorem dX1_lengths_1 : decode cX1_lengths 1 = .ok (.istore_n 1, 1) := by decide +kernel
theorem dX1_lengths_2 : decode cX1_lengths 2 = .ok (.iconst 0, 1) := by decide +kernel
theorem dX1_lengths_3 : decode cX1_lengths 3 = .ok (.istore_n 2, 1) := by decide +kernel
theorem dX1_lengths_4 : decode cX1_lengths 4 = .ok (.iload_n 2, 1) := by decide +kernel
theorem dX1_lengths_5 : decode cX1_lengths 5 = .ok (.aload_n 0, 1) := by decide +kernel
theorem dX1_lengths_6 : decode cX1_lengths 6 = .ok (.getfield 9, 3) := by decide +kernel
theorem dX1_lengths_9 : decode cX1_lengths 9 = .ok (.if_icmp .ge 18, 3) := by decide +kernel
theorem dX1_lengths_12 : decode cX1_lengths 12 = .ok (.iload_n 1, 1) := by decide +kernel
theorem dX1_lengths_13 : decode cX1_lengths 13 = .ok (.aload_n 0, 1) := by decide +kernel
theorem dX1_lengths_14 : decode cX1_lengths 14 = .ok (.getfield 22, 3) := by decide +kernel
theorem dX1_lengths_17 : decode cX1_lengths 17 = .ok (.iload_n 2, 1) := by decide +kernel
theorem dX1_lengths_18 : decode cX1_lengths 18 = .ok (.iaload, 1) := by decide +kernel
theorem dX1_lengths_19 : decode cX1_lengths 19 = .ok (.iadd, 1) := by decide +kernel
theorem dX1_lengths_20 : decode cX1_lengths 20 = .ok (.istore_n 1, 1) := by decide +kernel
theorem dX1_lengths_21 : decode cX1_lengths 21 = .ok (.iinc 2 1, 3) := by decide +kernel
theorem dX1_lengths_24 : decode cX1_lengths 24 = .ok (.goto (-20), 3) := by decide +kernel
theorem dX1_lengths_27 : decode cX1_lengths 27 = .ok (.iload_n 1, 1) := by decide +kernel
theorem dX1_lengths_28 : decode cX1_lengths 28 = .ok (.ireturn, 1) := by decide +kernel
theorem dX1_changes_0 : decode cX1_changes 0 = .ok (.iconst 0, 1) := by decide +kernel
theorem dX1_changes_1 : decode cX1_changes 1 = .ok (.istore_n 1, 1) := by decide +kernel
theorem dX1_changes_2 : decode cX1_changes 2 = .ok (.iconst 0, 1) := by decide +kernel
theorem dX1_changes_3 : decode cX1_changes 3 = .ok (.istore_n 2, 1) := by decide +kernel
theorem dX1_changes_4 : decode cX1_changes 4 = .ok (.iload_n 2, 1) := by decide +kernel
theorem dX1_changes_5 : decode cX1_changes 5 = .ok (.aload_n 0, 1) := by decide +kernel
theorem dX1_changes_6 : decode cX1_changes 6 = .ok (.getfield 9, 3) := by decide +kernel
theorem dX1_changes_9 : decode cX1_changes 9 = .ok (.if_icmp .ge 23, 3) := by decide +kernel
theorem dX1_changes_12 : decode cX1_changes 12 = .ok (.aload_n 0, 1) := by decide +kernel
theorem dX1_changes_13 : decode cX1_changes 13 = .ok (.getfield 15, 3) := by decide +kernel
theorem dX1_changes_16 : decode cX1_changes 16 = .ok (.iload_n 2, 1) := by decide +kernel
theorem dX1_changes_17 : decode cX1_changes 17 = .ok (.iaload, 1) := by decide +kernel
theorem dX1_changes_18 : decode cX1_changes 18 = .ok (.bipush 6, 2) := by decide +kernel
theorem dX1_changes_20 : decode cX1_changes 20 = .ok (.if_icmp .ne 6, 3) := by decide +kernel
theorem dX1_changes_23 : decode cX1_changes 23 = .ok (.iinc 1 1, 3) := by decide +kernel
theorem dX1_changes_26 : decode cX1_changes 26 = .ok (.iinc 2 1, 3) := by decide +kernel
theorem dX1_changes_29 : decode cX1_changes 29 = .ok (.goto (-25), 3) := by decide +kernel
theorem dX1_changes_32 : decode cX1_changes 32 = .ok (.iload_n 1, 1) := by decide +kernel
theorem dX1_changes_33 : decode cX1_changes 33 = .ok (.ireturn, 1) := by decide +kernel
theorem dX1_rides_0 : decode cX1_rides 0 = .ok (.iconst 0, 1) := by decide +kernel
theorem dX1_rides_1 : decode cX1_rides 1 = .ok (.istore_n 1, 1) := by decide +kernel
theorem dX1_rides_2 : decode cX1_rides 2 = .ok (.iconst 0, 1) := by decide +kernel
theorem dX1_rides_3 : decode cX1_rides 3 = .ok (.istore_n 2, 1) := by decide +kernel
theorem dX1_rides_4 : decode cX1_rides 4 = .ok (.iload_n 2, 1) := by decide +kernel
theorem dX1_rides_5 : decode cX1_rides 5 = .ok (.aload_n 0, 1) := by decide +kernel
theorem dX1_rides_6 : decode cX1_rides 6 = .ok (.getfield 9, 3) := by decide +kernel
theorem dX1_rides_9 : decode cX1_rides 9 = .ok (.if_icmp .ge 24, 3) := by decide +kernel
theorem dX1_rides_12 : decode cX1_rides 12 = .ok (.aload_n 0, 1) := by decide +kernel
theorem dX1_rides_13 : decode cX1_rides 13 = .ok (.getfield 15, 3) := by decide +kernel
theorem dX1_rides_16 : decode cX1_rides 16 = .ok (.iload_n 2, 1) := by decide +kernel
theorem dX1_rides_17 : decode cX1_rides 17 = .ok (.iaload, 1) := by decide +kernel
theorem dX1_rides_18 : decode cX1_rides 18 = .ok (.invokestatic 47, 3) := by decide +kernel
theorem dX1_rides_21 : decode cX1_rides 21 = .ok (.ifCond .eq 6, 3) := by decide +kernel
theorem dX1_rides_24 : decode cX1_rides 24 = .ok (.iinc 1 1, 3) := by decide +kernel
theorem dX1_rides_27 : decode cX1_rides 27 = .ok (.iinc 2 1, 3) := by decide +kernel
theorem dX1_rides_30 : decode cX1_rides 30 = .ok (.goto (-26), 3) := by decide +kernel
theorem dX1_rides_33 : decode cX1_rides 33 = .ok (.iload_n 1, 1) := by decide +kernel
theorem dX1_rides_34 : decode cX1_rides 34 = .ok (.ireturn, 1) := by decide +kernel
theorem dX2_init_0 : decode cX2_init 0 = .ok (.aload_n 0, 1) := by decide +kernel
theorem dX2_init_1 : decode cX2_init 1 = .ok (.invokespecial 3, 3) := by decide +kernel
theorem dX2_init_4 : decode cX2_init 4 = .ok (.aload_n 0, 1) := by decide +kernel
theorem dX2_init_5 : decode cX2_init 5 = .ok (.iconst 4, 1) := by decide +kernel
theorem dX2_init_6 : decode cX2_init 6 = .ok (.newarray .int, 2) := by decide +kernel
theorem dX2_init_8 : decode cX2_init 8 = .ok (.putfield 9, 3) := by decide +kernel
theorem dX2_init_11 : decode cX2_init 11 = .ok (.aload_n 0, 1) := by decide +kernel
theorem dX2_init_12 : decode cX2_init 12 = .ok (.iconst 4, 1) := by decide +kernel
theorem dX2_init_13 : decode cX2_init 13 = .ok (.newarray .int, 2) := by decide +kernel
theorem dX2_init_15 : decode cX2_init 15 = .ok (.putfield 15, 3) := by decide +kernel
theorem dX2_init_18 : decode cX2_init 18 = .ok (.return_, 1) := by decide +kernel
theorem dX2_settled_0 : decode cX2_settled 0 = .ok (.iconst 0, 1) := by decide +kernel
theorem dX2_settled_1 : decode cX2_settled 1 = .ok (.istore_n 1, 1) := by decide +kernel
theorem dX2_settled_2 : decode cX2_settled 2 = .ok (.iload_n 1, 1) := by decide +kernel
theorem dX2_settled_3 : decode cX2_settled 3 = .ok (.iconst 3, 1) := by decide +kernel
theorem dX2_settled_4 : decode cX2_settled 4 = .ok (.if_icmp .gt 53, 3) := by decide +kernel
theorem dX2_settled_7 : decode cX2_settled 7 = .ok (.iconst 0, 1) := by decide +kernel
theorem dX2_settled_8 : decode cX2_settled 8 = .ok (.istore_n 2, 1) := by decide +kernel
theorem dX2_settled_9 : decode cX2_settled 9 = .ok (.iload_n 2, 1) := by decide +kernel
theorem dX2_settled_10 : decode cX2_settled 10 = .ok (.iconst 3, 1) := by decide +kernel
theorem dX2_settled_11 : decode cX2_settled 11 = .ok (.if_icmp .gt 40, 3) := by decide +kernel
theorem dX2_settled_14 : decode cX2_settled 14 = .ok (.aload_n 0, 1) := by decide +kernel
theorem dX2_settled_15 : decode cX2_settled 15 = .ok (.getfield 9, 3) := by decide +kernel
theorem dX2_settled_18 : decode cX2_settled 18 = .ok (.iload_n 1, 1) := by decide +kernel
theorem dX2_settled_19 : decode cX2_settled 19 = .ok (.iload_n 2, 1) := by decide +kernel
theorem dX2_settled_20 : decode cX2_settled 20 = .ok (.invokestatic 18, 3) := by decide +kernel
theorem dX2_settled_23 : decode cX2_settled 23 = .ok (.ifCond .eq 22, 3) := by decide +kernel
theorem dX2_settled_26 : decode cX2_settled 26 = .ok (.aload_n 0, 1) := by decide +kernel
theorem dX2_settled_27 : decode cX2_settled 27 = .ok (.getfield 15, 3) := by decide +kernel
theorem dX2_settled_30 : decode cX2_settled 30 = .ok (.iload_n 2, 1) := by decide +kernel
theorem dX2_settled_31 : decode cX2_settled 31 = .ok (.iload_n 1, 1) := by decide +kernel
theorem dX2_settled_32 : decode cX2_settled 32 = .ok (.invokestatic 18, 3) := by decide +kernel
theorem dX2_settled_35 : decode cX2_settled 35 = .ok (.ifCond .eq 10, 3) := by decide +kernel
theorem dX2_settled_38 : decode cX2_settled 38 = .ok (.bipush 10, 2) := by decide +kernel
theorem dX2_settled_40 : decode cX2_settled 40 = .ok (.iload_n 1, 1) := by decide +kernel
theorem dX2_settled_41 : decode cX2_settled 41 = .ok (.imul, 1) := by decide +kernel
theorem dX2_settled_42 : decode cX2_settled 42 = .ok (.iload_n 2, 1) := by decide +kernel
theorem dX2_settled_43 : decode cX2_settled 43 = .ok (.iadd, 1) := by decide +kernel
theorem dX2_settled_44 : decode cX2_settled 44 = .ok (.ireturn, 1) := by decide +kernel
theorem dX2_settled_45 : decode cX2_settled 45 = .ok (.iinc 2 1, 3) := by decide +kernel
theorem dX2_settled_48 : decode cX2_settled 48 = .ok (.goto (-39), 3) := by decide +kernel
theorem dX2_settled_51 : decode cX2_settled 51 = .ok (.iinc 1 1, 3) := by decide +kernel
theorem dX2_settled_54 : decode cX2_settled 54 = .ok (.goto (-52), 3) := by decide +kernel
theorem dX2_settled_57 : decode cX2_settled 57 = .ok (.bipush (-9), 2) := by decide +kernel
theorem dX2_settled_59 : decode cX2_settled 59 = .ok (.ireturn, 1) := by decide +kernel
theorem dX2_isBestAgainst_0 : decode cX2_isBestAgainst 0 = .ok (.aload_n 0, 1) := by decide +kernel
theorem dX2_isBestAgainst_1 : decode cX2_isBestAgainst 1 = .ok (.iload_n 1, 1) := by decide +kernel
theorem dX2_isBestAgainst_2 : decode cX2_isBestAgainst 2 = .ok (.iload_n 2, 1) := by decide +kernel
theorem dX2_isBestAgainst_3 : decode cX2_isBestAgainst 3 = .ok (.invokestatic 22, 3) := by decide +kernel
theorem dX2_isBestAgainst_6 : decode cX2_isBestAgainst 6 = .ok (.istore_n 3, 1) := by decide +kernel
theorem dX2_isBestAgainst_7 : decode cX2_isBestAgainst 7 = .ok (.iconst 0, 1) := by decide +kernel
theorem dX2_isBestAgainst_8 : decode cX2_isBestAgainst 8 = .ok (.istore 4, 2) := by decide +kernel
theorem dX2_isBestAgainst_10 : decode cX2_isBestAgainst 10 = .ok (.iload 4, 2) := by decide +kernel
theorem dX2_isBestAgainst_12 : decode cX2_isBestAgainst 12 = .ok (.iconst 3, 1) := by decide +kernel
theorem dX2_isBestAgainst_13 : decode cX2_isBestAgainst 13 = .ok (.if_icmp .gt 22, 3) := by decide +kernel
theorem dX2_isBestAgainst_16 : decode cX2_isBestAgainst 16 = .ok (.aload_n 0, 1) := by decide +kernel
theorem dX2_isBestAgainst_17 : decode cX2_isBestAgainst 17 = .ok (.iload 4, 2) := by decide +kernel
theorem dX2_isBestAgainst_19 : decode cX2_isBestAgainst 19 = .ok (.iload_n 2, 1) := by decide +kernel
theorem dX2_isBestAgainst_20 : decode cX2_isBestAgainst 20 = .ok (.invokestatic 22, 3) := by decide +kernel
theorem dX2_isBestAgainst_23 : decode cX2_isBestAgainst 23 = .ok (.iload_n 3, 1) := by decide +kernel
theorem dX2_isBestAgainst_24 : decode cX2_isBestAgainst 24 = .ok (.if_icmp .ge 5, 3) := by decide +kernel
theorem dX2_isBestAgainst_27 : decode cX2_isBestAgainst 27 = .ok (.iconst 0, 1) := by decide +kernel
theorem dX2_isBestAgainst_28 : decode cX2_isBestAgainst 28 = .ok (.ireturn, 1) := by decide +kernel
theorem dX2_isBestAgainst_29 : decode cX2_isBestAgainst 29 = .ok (.iinc 4 1, 3) := by decide +kernel
theorem dX2_isBestAgainst_32 : decode cX2_isBestAgainst 32 = .ok (.goto (-22), 3) := by decide +kernel
theorem dX2_isBestAgainst_35 : decode cX2_isBestAgainst 35 = .ok (.iconst 1, 1) := by decide +kernel
theorem dX2_isBestAgainst_36 : decode cX2_isBestAgainst 36 = .ok (.ireturn, 1) := by decide +kernel
theorem dX2_hindered_0 : decode cX2_hindered 0 = .ok (.iload_n 1, 1) := by decide +kernel
theorem dX2_hindered_1 : decode cX2_hindered 1 = .ok (.iload_n 2, 1) := by decide +kernel
theorem dX2_hindered_2 : decode cX2_hindered 2 = .ok (.if_icmp .ge 11, 3) := by decide +kernel
theorem dX2_hindered_5 : decode cX2_hindered 5 = .ok (.aload_n 0, 1) := by decide +kernel
theorem dX2_hindered_6 : decode cX2_hindered 6 = .ok (.iload_n 1, 1) := by decide +kernel
theorem dX2_hindered_7 : decode cX2_hindered 7 = .ok (.iaload, 1) := by decide +kernel
theorem dX2_hindered_8 : decode cX2_hindered 8 = .ok (.iconst 5, 1) := by decide +kernel
theorem dX2_hindered_9 : decode cX2_hindered 9 = .ok (.iadd, 1) := by decide +kernel
theorem dX2_hindered_10 : decode cX2_hindered 10 = .ok (.goto 6, 3) := by decide +kernel
theorem dX2_hindered_13 : decode cX2_hindered 13 = .ok (.aload_n 0, 1) := by decide +kernel
theorem dX2_hindered_14 : decode cX2_hindered 14 = .ok (.iload_n 1, 1) := by decide +kernel
theorem dX2_hindered_15 : decode cX2_hindered 15 = .ok (.iaload, 1) := by decide +kernel
theorem dX2_hindered_16 : decode cX2_hindered 16 = .ok (.ireturn, 1) := by decide +kernel
theorem dX3_init_0 : decode cX3_init 0 = .ok (.aload_n 0, 1) := by decide +kernel
theorem dX3_init_1 : decode cX3_init 1 = .ok (.invokespecial 3, 3) := by decide +kernel
theorem dX3_init_4 : decode cX3_init 4 = .ok (.aload_n 0, 1) := by decide +kernel
theorem dX3_init_5 : decode cX3_init 5 = .ok (.new 9, 3) := by decide +kernel
theorem dX3_init_8 : decode cX3_init 8 = .ok (.dup, 1) := by decide +kernel
theorem dX3_init_9 : decode cX3_init 9 = .ok (.invokespecial 11, 3) := by decide +kernel
theorem dX3_init_12 : decode cX3_init 12 = .ok (.putfield 12, 3) := by decide +kernel
theorem dX3_init_15 : decode cX3_init 15 = .ok (.aload_n 0, 1) := by decide +kernel
theorem dX3_init_16 : decode cX3_init 16 = .ok (.iconst 5, 1) := by decide +kernel
theorem dX3_init_17 : decode cX3_init 17 = .ok (.anewarray 18, 3) := by decide +kernel
theorem dX3_init_20 : decode cX3_init 20 = .ok (.putfield 20, 3) := by decide +kernel
theorem dX3_init_23 : decode cX3_init 23 = .ok (.aload_n 0, 1) := by decide +kernel
theorem dX3_init_24 : decode cX3_init 24 = .ok (.iconst 0, 1) := by decide +kernel
theorem dX3_init_25 : decode cX3_init 25 = .ok (.putfield 24, 3) := by decide +kernel
theorem dX3_init_28 : decode cX3_init 28 = .ok (.iconst 0, 1) := by decide +kernel
theorem dX3_init_29 : decode cX3_init 29 = .ok (.istore_n 1, 1) := by decide +kernel
theorem dX3_init_30 : decode cX3_init 30 = .ok (.iload_n 1, 1) := by decide +kernel
theorem dX3_init_31 : decode cX3_init 31 = .ok (.iconst 5, 1) := by decide +kernel
theorem dX3_init_32 : decode cX3_init 32 = .ok (.if_icmp .ge 22, 3) := by decide +kernel
theorem dX3_init_35 : decode cX3_init 35 = .ok (.aload_n 0, 1) := by decide +kernel
theorem dX3_init_36 : decode cX3_init 36 = .ok (.getfield 20, 3) := by decide +kernel
theorem dX3_init_39 : decode cX3_init 39 = .ok (.iload_n 1, 1) := by decide +kernel
theorem dX3_init_40 : decode cX3_init 40 = .ok (.new 18, 3) := by decide +kernel
theorem dX3_init_43 : decode cX3_init 43 = .ok (.dup, 1) := by decide +kernel
theorem dX3_init_44 : decode cX3_init 44 = .ok (.invokespecial 28, 3) := by decide +kernel
theorem dX3_init_47 : decode cX3_init 47 = .ok (.aastore, 1) := by decide +kernel
theorem dX3_init_48 : decode cX3_init 48 = .ok (.iinc 1 1, 3) := by decide +kernel
theorem dX3_init_51 : decode cX3_init 51 = .ok (.goto (-21), 3) := by decide +kernel
theorem dX3_init_54 : decode cX3_init 54 = .ok (.return_, 1) := by decide +kernel
theorem dX3_has_0 : decode cX3_has 0 = .ok (.iload_n 1, 1) := by decide +kernel
theorem dX3_has_1 : decode cX3_has 1 = .ok (.ifCond .lt 15, 3) := by decide +kernel
theorem dX3_has_4 : decode cX3_has 4 = .ok (.iload_n 1, 1) := by decide +kernel
theorem dX3_has_5 : decode cX3_has 5 = .ok (.aload_n 0, 1) := by decide +kernel
theorem dX3_has_6 : decode cX3_has 6 = .ok (.getfield 24, 3) := by decide +kernel
theorem dX3_has_9 : decode cX3_has 9 = .ok (.if_icmp .ge 7, 3) := by decide +kernel
theorem dX3_has_12 : decode cX3_has 12 = .ok (.iconst 1, 1) := by decide +kernel
theorem dX3_has_13 : decode cX3_has 13 = .ok (.goto 4, 3) := by decide +kernel
theorem dX3_has_16 : decode cX3_has 16 = .ok (.iconst 0, 1) := by decide +kernel
theorem dX3_has_17 : decode cX3_has 17 = .ok (.ireturn, 1) := by decide +kernel
theorem dX3_add_0 : decode cX3_add 0 = .ok (.aload_n 0, 1) := by decide +kernel
theorem dX3_add_1 : decode cX3_add 1 = .ok (.getfield 24, 3) := by decide +kernel
theorem dX3_add_4 : decode cX3_add 4 = .ok (.iconst 5, 1) := by decide +kernel
theorem dX3_add_5 : decode cX3_add 5 = .ok (.if_icmp .ge 30, 3) := by decide +kernel
theorem dX3_add_8 : decode cX3_add 8 = .ok (.aload_n 0, 1) := by decide +kernel
theorem dX3_add_9 : decode cX3_add 9 = .ok (.getfield 20, 3) := by decide +kernel
theorem dX3_add_12 : decode cX3_add 12 = .ok (.aload_n 0, 1) := by decide +kernel
theorem dX3_add_13 : decode cX3_add 13 = .ok (.getfield 24, 3) := by decide +kernel
theorem dX3_add_16 : decode cX3_add 16 = .ok (.aaload, 1) := by decide +kernel
theorem dX3_add_17 : decode cX3_add 17 = .ok (.iload_n 1, 1) := by decide +kernel
theorem dX3_add_18 : decode cX3_add 18 = .ok (.iload_n 2, 1) := by decide +kernel
theorem dX3_add_19 : decode cX3_add 19 = .ok (.iload_n 3, 1) := by decide +kernel
theorem dX3_add_20 : decode cX3_add 20 = .ok (.iload 4, 2) := by decide +kernel
theorem dX3_add_22 : decode cX3_add 22 = .ok (.invokevirtual 29, 3) := by decide +kernel
theorem dX3_add_25 : decode cX3_add 25 = .ok (.aload_n 0, 1) := by decide +kernel
theorem dX3_add_26 : decode cX3_add 26 = .ok (.dup, 1) := by decide +kernel
theorem dX3_add_27 : decode cX3_add 27 = .ok (.getfield 24, 3) := by decide +kernel
theorem dX3_add_30 : decode cX3_add 30 = .ok (.iconst 1, 1) := by decide +kernel
theorem dX3_add_31 : decode cX3_add 31 = .ok (.iadd, 1) := by decide +kernel
theorem dX3_add_32 : decode cX3_add 32 = .ok (.putfield 24, 3) := by decide +kernel
theorem dX3_add_35 : decode cX3_add 35 = .ok (.return_, 1) := by decide +kernel
theorem dX3_planTries_0 : decode cX3_planTries 0 = .ok (.aload_n 0, 1) := by decide +kernel
theorem dX3_planTries_1 : decode cX3_planTries 1 = .ok (.iload_n 1, 1) := by decide +kernel
theorem dX3_planTries_2 : decode cX3_planTries 2 = .ok (.invokevirtual 33, 3) := by decide +kernel
theorem dX3_planTries_5 : decode cX3_planTries 5 = .ok (.ifCond .eq 25, 3) := by decide +kernel
theorem dX3_planTries_8 : decode cX3_planTries 8 = .ok (.iload_n 2, 1) := by decide +kernel
theorem dX3_planTries_9 : decode cX3_planTries 9 = .ok (.ifCond .lt 21, 3) := by decide +kernel
theorem dX3_planTries_12 : decode cX3_planTries 12 = .ok (.iload_n 2, 1) := by decide +kernel
theorem dX3_planTries_13 : decode cX3_planTries 13 = .ok (.bipush 10, 2) := by decide +kernel
theorem dX3_planTries_15 : decode cX3_planTries 15 = .ok (.if_icmp .ge 15, 3) := by decide +kernel
theorem dX3_planTries_18 : decode cX3_planTries 18 = .ok (.aload_n 0, 1) := by decide +kernel
theorem dX3_planTries_19 : decode cX3_planTries 19 = .ok (.getfield 20, 3) := by decide +kernel
theorem dX3_planTries_22 : decode cX3_planTries 22 = .ok (.iload_n 1, 1) := by decide +kernel
theorem dX3_planTries_23 : decode cX3_planTries 23 = .ok (.aaload, 1) := by decide +kernel
theorem dX3_planTries_24 : decode cX3_planTries 24 = .ok (.getfield 37, 3) := by decide +kernel
theorem dX3_planTries_27 : decode cX3_planTries 27 = .ok (.iload_n 2, 1) := by decide +kernel
theorem dX3_planTries_28 : decode cX3_planTries 28 = .ok (.iload_n 3, 1) := by decide +kernel
theorem dX3_planTries_29 : decode cX3_planTries 29 = .ok (.iastore, 1) := by decide +kernel
theorem dX3_planTries_30 : decode cX3_planTries 30 = .ok (.return_, 1) := by decide +kernel
theorem dX3_become_0 : decode cX3_become 0 = .ok (.aload_n 0, 1) := by decide +kernel
theorem dX3_become_1 : decode cX3_become 1 = .ok (.getfield 12, 3) := by decide +kernel
theorem dX3_become_4 : decode cX3_become 4 = .ok (.aload_n 1, 1) := by decide +kernel
theorem dX3_become_5 : decode cX3_become 5 = .ok (.getfield 12, 3) := by decide +kernel
theorem dX3_become_8 : decode cX3_become 8 = .ok (.invokevirtual 41, 3) := by decide +kernel
theorem dX3_become_11 : decode cX3_become 11 = .ok (.aload_n 0, 1) := by decide +kernel
theorem dX3_become_12 : decode cX3_become 12 = .ok (.aload_n 1, 1) := by decide +kernel
theorem dX3_become_13 : decode cX3_become 13 = .ok (.getfield 24, 3) := by decide +kernel
theorem dX3_become_16 : decode cX3_become 16 = .ok (.putfield 24, 3) := by decide +kernel
theorem dX3_become_19 : decode cX3_become 19 = .ok (.iconst 0, 1) := by decide +kernel
theorem dX3_become_20 : decode cX3_become 20 = .ok (.istore_n 2, 1) := by decide +kernel
theorem dX3_become_21 : decode cX3_become 21 = .ok (.iload_n 2, 1) := by decide +kernel
theorem dX3_become_22 : decode cX3_become 22 = .ok (.aload_n 0, 1) := by decide +kernel
theorem dX3_become_23 : decode cX3_become 23 = .ok (.getfield 24, 3) := by decide +kernel
theorem dX3_become_26 : decode cX3_become 26 = .ok (.if_icmp .ge 24, 3) := by decide +kernel
theorem dX3_become_29 : decode cX3_become 29 = .ok (.aload_n 0, 1) := by decide +kernel
theorem dX3_become_30 : decode cX3_become 30 = .ok (.getfield 20, 3) := by decide +kernel
theorem dX3_become_33 : decode cX3_become 33 = .ok (.iload_n 2, 1) := by decide +kernel
theorem dX3_become_34 : decode cX3_become 34 = .ok (.aaload, 1) := by decide +kernel
theorem dX3_become_35 : decode cX3_become 35 = .ok (.aload_n 1, 1) := by decide +kernel
theorem dX3_become_36 : decode cX3_become 36 = .ok (.getfield 20, 3) := by decide +kernel
theorem dX3_become_39 : decode cX3_become 39 = .ok (.iload_n 2, 1) := by decide +kernel
theorem dX3_become_40 : decode cX3_become 40 = .ok (.aaload, 1) := by decide +kernel
theorem dX3_become_41 : decode cX3_become 41 = .ok (.invokevirtual 45, 3) := by decide +kernel
theorem dX3_become_44 : decode cX3_become 44 = .ok (.iinc 2 1, 3) := by decide +kernel
theorem dX3_become_47 : decode cX3_become 47 = .ok (.goto (-26), 3) := by decide +kernel
theorem dX3_become_50 : decode cX3_become 50 = .ok (.return_, 1) := by decide +kernel
theorem dX3_allTries_0 : decode cX3_allTries 0 = .ok (.iconst 0, 1) := by decide +kernel
theorem dX3_allTries_1 : decode cX3_allTries 1 = .ok (.istore_n 1, 1) := by decide +kernel
theorem dX3_allTries_2 : decode cX3_allTries 2 = .ok (.iconst 0, 1) := by decide +kernel
theorem dX3_allTries_3 : decode cX3_allTries 3 = .ok (.istore_n 2, 1) := by decide +kernel
theorem dX3_allTries_4 : decode cX3_allTries 4 = .ok (.iload_n 2, 1) := by decide +kernel
theorem dX3_allTries_5 : decode cX3_allTries 5 = .ok (.aload_n 0, 1) := by decide +kernel
theorem dX3_allTries_6 : decode cX3_allTries 6 = .ok (.getfield 24, 3) := by decide +kernel
theorem dX3_allTries_9 : decode cX3_allTries 9 = .ok (.if_icmp .ge 42, 3) := by decide +kernel
theorem dX3_allTries_12 : decode cX3_allTries 12 = .ok (.iconst 0, 1) := by decide +kernel
theorem dX3_allTries_13 : decode cX3_allTries 13 = .ok (.istore_n 3, 1) := by decide +kernel
theorem dX3_allTries_14 : decode cX3_allTries 14 = .ok (.iload_n 3, 1) := by decide +kernel
theorem dX3_allTries_15 : decode cX3_allTries 15 = .ok (.aload_n 0, 1) := by decide +kernel
theorem dX3_allTries_16 : decode cX3_allTries 16 = .ok (.getfield 12, 3) := by decide +kernel
theorem dX3_allTries_19 : decode cX3_allTries 19 = .ok (.getfield 48, 3) := by decide +kernel
theorem dX3_allTries_22 : decode cX3_allTries 22 = .ok (.if_icmp .ge 23, 3) := by decide +kernel
theorem dX3_allTries_25 : decode cX3_allTries 25 = .ok (.iload_n 1, 1) := by decide +kernel
theorem dX3_allTries_26 : decode cX3_allTries 26 = .ok (.aload_n 0, 1) := by decide +kernel
theorem dX3_allTries_27 : decode cX3_allTries 27 = .ok (.getfield 20, 3) := by decide +kernel
theorem dX3_allTries_30 : decode cX3_allTries 30 = .ok (.iload_n 2, 1) := by decide +kernel
theorem dX3_allTries_31 : decode cX3_allTries 31 = .ok (.aaload, 1) := by decide +kernel
theorem dX3_allTries_32 : decode cX3_allTries 32 = .ok (.getfield 37, 3) := by decide +kernel
theorem dX3_allTries_35 : decode cX3_allTries 35 = .ok (.iload_n 3, 1) := by decide +kernel
theorem dX3_allTries_36 : decode cX3_allTries 36 = .ok (.iaload, 1) := by decide +kernel
theorem dX3_allTries_37 : decode cX3_allTries 37 = .ok (.iadd, 1) := by decide +kernel
theorem dX3_allTries_38 : decode cX3_allTries 38 = .ok (.istore_n 1, 1) := by decide +kernel
theorem dX3_allTries_39 : decode cX3_allTries 39 = .ok (.iinc 3 1, 3) := by decide +kernel
theorem dX3_allTries_42 : decode cX3_allTries 42 = .ok (.goto (-28), 3) := by decide +kernel
theorem dX3_allTries_45 : decode cX3_allTries 45 = .ok (.iinc 2 1, 3) := by decide +kernel
theorem dX3_allTries_48 : decode cX3_allTries 48 = .ok (.goto (-44), 3) := by decide +kernel
theorem dX3_allTries_51 : decode cX3_allTries 51 = .ok (.iload_n 1, 1) := by decide +kernel
theorem dX3_allTries_52 : decode cX3_allTries 52 = .ok (.ireturn, 1) := by decide +kernel
theorem dX4_ofLetter_0 : decode cX4_ofLetter 0 = .ok (.iload_n 0, 1) := by decide +kernel
theorem dX4_ofLetter_1 : decode cX4_ofLetter 1 = .ok (.tableswitch 114 99 119 #[111, 101, 114, 109, 114, 105, 114, 114, 114, 114, 114, 114, 114, 114, 114, 103, 99, 114, 114, 114, 107], 99) := by decide +kernel
theorem dX4_ofLetter_100 : decode cX4_ofLetter 100 = .ok (.iconst 0, 1) := by decide +kernel
theorem dX4_ofLetter_101 : decode cX4_ofLetter 101 = .ok (.ireturn, 1) := by decide +kernel
theorem dX4_ofLetter_102 : decode cX4_ofLetter 102 = .ok (.iconst 1, 1) := by decide +kernel
theorem dX4_ofLetter_103 : decode cX4_ofLetter 103 = .ok (.ireturn, 1) := by decide +kernel
theorem dX4_ofLetter_104 : decode cX4_ofLetter 104 = .ok (.iconst 2, 1) := by decide +kernel
theorem dX4_ofLetter_105 : decode cX4_ofLetter 105 = .ok (.ireturn, 1) := by decide +kernel
theorem dX4_ofLetter_106 : decode cX4_ofLetter 106 = .ok (.iconst 3, 1) := by decide +kernel
theorem dX4_ofLetter_107 : decode cX4_ofLetter 107 = .ok (.ireturn, 1) := by decide +kernel
theorem dX4_ofLetter_108 : decode cX4_ofLetter 108 = .ok (.iconst 4, 1) := by decide +kernel
theorem dX4_ofLetter_109 : decode cX4_ofLetter 109 = .ok (.ireturn, 1) := by decide +kernel
theorem dX4_ofLetter_110 : decode cX4_ofLetter 110 = .ok (.iconst 5, 1) := by decide +kernel
theorem dX4_ofLetter_111 : decode cX4_ofLetter 111 = .ok (.ireturn, 1) := by decide +kernel
theorem dX4_ofLetter_112 : decode cX4_ofLetter 112 = .ok (.bipush 6, 2) := by decide +kernel
theorem dX4_ofLetter_114 : decode cX4_ofLetter 114 = .ok (.ireturn, 1) := by decide +kernel
theorem dX4_ofLetter_115 : decode cX4_ofLetter 115 = .ok (.bipush (-9), 2) := by decide +kernel
theorem dX4_ofLetter_117 : decode cX4_ofLetter 117 = .ok (.ireturn, 1) := by decide +kernel
theorem dX4_isRide_0 : decode cX4_isRide 0 = .ok (.iload_n 0, 1) := by decide +kernel
theorem dX4_isRide_1 : decode cX4_isRide 1 = .ok (.iconst 2, 1) := by decide +kernel
theorem dX4_isRide_2 : decode cX4_isRide 2 = .ok (.if_icmp .eq 13, 3) := by decide +kernel
theorem dX4_isRide_5 : decode cX4_isRide 5 = .ok (.iload_n 0, 1) := by decide +kernel
theorem dX4_isRide_6 : decode cX4_isRide 6 = .ok (.iconst 3, 1) := by decide +kernel
theorem dX4_isRide_7 : decode cX4_isRide 7 = .ok (.if_icmp .eq 8, 3) := by decide +kernel
theorem dX4_isRide_10 : decode cX4_isRide 10 = .ok (.iload_n 0, 1) := by decide +kernel
theorem dX4_isRide_11 : decode cX4_isRide 11 = .ok (.iconst 4, 1) := by decide +kernel
theorem dX4_isRide_12 : decode cX4_isRide 12 = .ok (.if_icmp .ne 7, 3) := by decide +kernel
theorem dX4_isRide_15 : decode cX4_isRide 15 = .ok (.iconst 1, 1) := by decide +kernel
theorem dX4_isRide_16 : decode cX4_isRide 16 = .ok (.goto 4, 3) := by decide +kernel
theorem dX4_isRide_19 : decode cX4_isRide 19 = .ok (.iconst 0, 1) := by decide +kernel
theorem dX4_isRide_20 : decode cX4_isRide 20 = .ok (.ireturn, 1) := by decide +kernel
theorem dX4_takes_0 : decode cX4_takes 0 = .ok (.iload_n 0, 1) := by decide +kernel
theorem dX4_takes_1 : decode cX4_takes 1 = .ok (.tableswitch 45 0 5 #[39, 39, 41, 43, 41, 41], 39) := by decide +kernel
theorem dX4_takes_40 : decode cX4_takes 40 = .ok (.iconst 1, 1) := by decide +kernel
theorem dX4_takes_41 : decode cX4_takes 41 = .ok (.ireturn, 1) := by decide +kernel
theorem dX4_takes_42 : decode cX4_takes 42 = .ok (.iconst 2, 1) := by decide +kernel
theorem dX4_takes_43 : decode cX4_takes 43 = .ok (.ireturn, 1) := by decide +kernel
theorem dX4_takes_44 : decode cX4_takes 44 = .ok (.iconst 3, 1) := by decide +kernel
theorem dX4_takes_45 : decode cX4_takes 45 = .ok (.ireturn, 1) := by decide +kernel
theorem dX4_takes_46 : decode cX4_takes 46 = .ok (.iconst 0, 1) := by decide +kernel
theorem dX4_takes_47 : decode cX4_takes 47 = .ok (.ireturn, 1) := by decide +kernel
theorem dX4_secondsTrying_0 : decode cX4_secondsTrying 0 = .ok (.iload_n 2, 1) := by decide +kernel
theorem dX4_secondsTrying_1 : decode cX4_secondsTrying 1 = .ok (.ifCond .le 14, 3) := by decide +kernel
theorem dX4_secondsTrying_4 : decode cX4_secondsTrying 4 = .ok (.iload_n 0, 1) := by decide +kernel
theorem dX4_secondsTrying_5 : decode cX4_secondsTrying 5 = .ok (.iload_n 0, 1) := by decide +kernel
theorem dX4_secondsTrying_6 : decode cX4_secondsTrying 6 = .ok (.iload_n 1, 1) := by decide +kernel
theorem dX4_secondsTrying_7 : decode cX4_secondsTrying 7 = .ok (.imul, 1) := by decide +kernel
theorem dX4_secondsTrying_8 : decode cX4_secondsTrying 8 = .ok (.bipush 10, 2) := by decide +kernel
theorem dX4_secondsTrying_10 : decode cX4_secondsTrying 10 = .ok (.idiv, 1) := by decide +kernel
theorem dX4_secondsTrying_11 : decode cX4_secondsTrying 11 = .ok (.isub, 1) := by decide +kernel
theorem dX4_secondsTrying_12 : decode cX4_secondsTrying 12 = .ok (.goto 8, 3) := by decide +kernel
theorem dX4_secondsTrying_15 : decode cX4_secondsTrying 15 = .ok (.iload_n 0, 1) := by decide +kernel
theorem dX4_secondsTrying_16 : decode cX4_secondsTrying 16 = .ok (.iload_n 0, 1) := by decide +kernel
theorem dX4_secondsTrying_17 : decode cX4_secondsTrying 17 = .ok (.iconst 4, 1) := by decide +kernel
theorem dX4_secondsTrying_18 : decode cX4_secondsTrying 18 = .ok (.idiv, 1) := by decide +kernel
theorem dX4_secondsTrying_19 : decode cX4_secondsTrying 19 = .ok (.iadd, 1) := by decide +kernel
theorem dX4_secondsTrying_20 : decode cX4_secondsTrying 20 = .ok (.ireturn, 1) := by decide +kernel
theorem dX4_legsBehind_0 : decode cX4_legsBehind 0 = .ok (.iload_n 3, 1) := by decide +kernel
theorem dX4_legsBehind_1 : decode cX4_legsBehind 1 = .ok (.ifCond .le 20, 3) := by decide +kernel
theorem dX4_legsBehind_4 : decode cX4_legsBehind 4 = .ok (.iconst 0, 1) := by decide +kernel
theorem dX4_legsBehind_5 : decode cX4_legsBehind 5 = .ok (.iload_n 3, 1) := by decide +kernel
theorem dX4_legsBehind_6 : decode cX4_legsBehind 6 = .ok (.iload_n 0, 1) := by decide +kernel
theorem dX4_legsBehind_7 : decode cX4_legsBehind 7 = .ok (.invokestatic 11, 3) := by decide +kernel
theorem dX4_legsBehind_10 : decode cX4_legsBehind 10 = .ok (.iload_n 1, 1) := by decide +kernel
theorem dX4_legsBehind_11 : decode cX4_legsBehind 11 = .ok (.imul, 1) := by decide +kernel
theorem dX4_legsBehind_12 : decode cX4_legsBehind 12 = .ok (.iload_n 2, 1) := by decide +kernel
theorem dX4_legsBehind_13 : decode cX4_legsBehind 13 = .ok (.imul, 1) := by decide +kernel
theorem dX4_legsBehind_14 : decode cX4_legsBehind 14 = .ok (.isub, 1) := by decide +kernel
theorem dX4_legsBehind_15 : decode cX4_legsBehind 15 = .ok (.invokestatic 15, 3) := by decide +kernel
theorem dX4_legsBehind_18 : decode cX4_legsBehind 18 = .ok (.goto 4, 3) := by decide +kernel
theorem dX4_legsBehind_21 : decode cX4_legsBehind 21 = .ok (.iconst 0, 1) := by decide +kernel
theorem dX4_legsBehind_22 : decode cX4_legsBehind 22 = .ok (.istore 4, 2) := by decide +kernel
theorem dX4_legsBehind_24 : decode cX4_legsBehind 24 = .ok (.iload_n 0, 1) := by decide +kernel
theorem dX4_legsBehind_25 : decode cX4_legsBehind 25 = .ok (.bipush 6, 2) := by decide +kernel
theorem dX4_legsBehind_27 : decode cX4_legsBehind 27 = .ok (.if_icmp .ne 15, 3) := by decide +kernel
theorem dX4_legsBehind_30 : decode cX4_legsBehind 30 = .ok (.bipush 99, 2) := by decide +kernel
theorem dX4_legsBehind_32 : decode cX4_legsBehind 32 = .ok (.iload 4, 2) := by decide +kernel
theorem dX4_legsBehind_34 : decode cX4_legsBehind 34 = .ok (.iconst 5, 1) := by decide +kernel
theorem dX4_legsBehind_35 : decode cX4_legsBehind 35 = .ok (.iadd, 1) := by decide +kernel
theorem dX4_legsBehind_36 : decode cX4_legsBehind 36 = .ok (.invokestatic 21, 3) := by decide +kernel
theorem dX4_legsBehind_39 : decode cX4_legsBehind 39 = .ok (.goto 5, 3) := by decide +kernel
theorem dX4_legsBehind_42 : decode cX4_legsBehind 42 = .ok (.iload 4, 2) := by decide +kernel
theorem dX4_legsBehind_44 : decode cX4_legsBehind 44 = .ok (.ireturn, 1) := by decide +kernel
theorem dX5_init_0 : decode cX5_init 0 = .ok (.aload_n 0, 1) := by decide +kernel
theorem dX5_init_1 : decode cX5_init 1 = .ok (.invokespecial 1, 3) := by decide +kernel
theorem dX5_init_4 : decode cX5_init 4 = .ok (.aload_n 0, 1) := by decide +kernel
theorem dX5_init_5 : decode cX5_init 5 = .ok (.iconst 0, 1) := by decide +kernel
theorem dX5_init_6 : decode cX5_init 6 = .ok (.putfield 7, 3) := by decide +kernel
theorem dX5_init_9 : decode cX5_init 9 = .ok (.aload_n 0, 1) := by decide +kernel
theorem dX5_init_10 : decode cX5_init 10 = .ok (.iconst 0, 1) := by decide +kernel
theorem dX5_init_11 : decode cX5_init 11 = .ok (.putfield 13, 3) := by decide +kernel
theorem dX5_init_14 : decode cX5_init 14 = .ok (.return_, 1) := by decide +kernel
theorem dX5_below_0 : decode cX5_below 0 = .ok (.aload_n 0, 1) := by decide +kernel
theorem dX5_below_1 : decode cX5_below 1 = .ok (.aload_n 0, 1) := by decide +kernel
theorem dX5_below_2 : decode cX5_below 2 = .ok (.getfield 7, 3) := by decide +kernel
theorem dX5_below_5 : decode cX5_below 5 = .ok (.ldc 16, 2) := by decide +kernel
theorem dX5_below_7 : decode cX5_below 7 = .ok (.imul, 1) := by decide +kernel
theorem dX5_below_8 : decode cX5_below 8 = .ok (.ldc 17, 2) := by decide +kernel
theorem dX5_below_10 : decode cX5_below 10 = .ok (.iadd, 1) := by decide +kernel
theorem dX5_below_11 : decode cX5_below 11 = .ok (.putfield 7, 3) := by decide +kernel
theorem dX5_below_14 : decode cX5_below 14 = .ok (.iload_n 1, 1) := by decide +kernel
theorem dX5_below_15 : decode cX5_below 15 = .ok (.ifCond .le 19, 3) := by decide +kernel
theorem dX5_below_18 : decode cX5_below 18 = .ok (.aload_n 0, 1) := by decide +kernel
theorem dX5_below_19 : decode cX5_below 19 = .ok (.getfield 7, 3) := by decide +kernel
theorem dX5_below_22 : decode cX5_below 22 = .ok (.ldc 18, 2) := by decide +kernel
theorem dX5_below_24 : decode cX5_below 24 = .ok (.iand, 1) := by decide +kernel
theorem dX5_below_25 : decode cX5_below 25 = .ok (.sipush 256, 3) := by decide +kernel
theorem dX5_below_28 : decode cX5_below 28 = .ok (.idiv, 1) := by decide +kernel
theorem dX5_below_29 : decode cX5_below 29 = .ok (.iload_n 1, 1) := by decide +kernel
theorem dX5_below_30 : decode cX5_below 30 = .ok (.irem, 1) := by decide +kernel
theorem dX5_below_31 : decode cX5_below 31 = .ok (.goto 4, 3) := by decide +kernel
theorem dX5_below_34 : decode cX5_below 34 = .ok (.iconst 0, 1) := by decide +kernel
theorem dX5_below_35 : decode cX5_below 35 = .ok (.ireturn, 1) := by decide +kernel
theorem dX6_power_0 : decode cX6_power 0 = .ok (.lconst 1, 1) := by decide +kernel
theorem dX6_power_1 : decode cX6_power 1 = .ok (.lstore_n 3, 1) := by decide +kernel
theorem dX6_power_2 : decode cX6_power 2 = .ok (.iconst 0, 1) := by decide +kernel
theorem dX6_power_3 : decode cX6_power 3 = .ok (.istore 5, 2) := by decide +kernel
theorem dX6_power_5 : decode cX6_power 5 = .ok (.iload 5, 2) := by decide +kernel
theorem dX6_power_7 : decode cX6_power 7 = .ok (.iload_n 2, 1) := by decide +kernel
theorem dX6_power_8 : decode cX6_power 8 = .ok (.if_icmp .ge 13, 3) := by decide +kernel
theorem dX6_power_11 : decode cX6_power 11 = .ok (.lload_n 3, 1) := by decide +kernel
theorem dX6_power_12 : decode cX6_power 12 = .ok (.lload_n 0, 1) := by decide +kernel
theorem dX6_power_13 : decode cX6_power 13 = .ok (.lmul, 1) := by decide +kernel
theorem dX6_power_14 : decode cX6_power 14 = .ok (.lstore_n 3, 1) := by decide +kernel
theorem dX6_power_15 : decode cX6_power 15 = .ok (.iinc 5 1, 3) := by decide +kernel
theorem dX6_power_18 : decode cX6_power 18 = .ok (.goto (-13), 3) := by decide +kernel
theorem dX6_power_21 : decode cX6_power 21 = .ok (.lload_n 3, 1) := by decide +kernel
theorem dX6_power_22 : decode cX6_power 22 = .ok (.lreturn, 1) := by decide +kernel
theorem dX6_waysWithin_0 : decode cX6_waysWithin 0 = .ok (.lconst 0, 1) := by decide +kernel
theorem dX6_waysWithin_1 : decode cX6_waysWithin 1 = .ok (.lstore 4, 2) := by decide +kernel
theorem dX6_waysWithin_3 : decode cX6_waysWithin 3 = .ok (.lconst 1, 1) := by decide +kernel
theorem dX6_waysWithin_4 : decode cX6_waysWithin 4 = .ok (.lstore 6, 2) := by decide +kernel
theorem dX6_waysWithin_6 : decode cX6_waysWithin 6 = .ok (.iconst 0, 1) := by decide +kernel
theorem dX6_waysWithin_7 : decode cX6_waysWithin 7 = .ok (.istore 8, 2) := by decide +kernel
theorem dX6_waysWithin_9 : decode cX6_waysWithin 9 = .ok (.iload 8, 2) := by decide +kernel
theorem dX6_waysWithin_11 : decode cX6_waysWithin 11 = .ok (.iload_n 0, 1) := by decide +kernel
theorem dX6_waysWithin_12 : decode cX6_waysWithin 12 = .ok (.if_icmp .gt 52, 3) := by decide +kernel
theorem dX6_waysWithin_15 : decode cX6_waysWithin 15 = .ok (.iload 8, 2) := by decide +kernel
theorem dX6_waysWithin_17 : decode cX6_waysWithin 17 = .ok (.iload_n 2, 1) := by decide +kernel
theorem dX6_waysWithin_18 : decode cX6_waysWithin 18 = .ok (.imul, 1) := by decide +kernel
theorem dX6_waysWithin_19 : decode cX6_waysWithin 19 = .ok (.iload_n 3, 1) := by decide +kernel
theorem dX6_waysWithin_20 : decode cX6_waysWithin 20 = .ok (.if_icmp .gt 22, 3) := by decide +kernel
theorem dX6_waysWithin_23 : decode cX6_waysWithin 23 = .ok (.lload 4, 2) := by decide +kernel
theorem dX6_waysWithin_25 : decode cX6_waysWithin 25 = .ok (.lload 6, 2) := by decide +kernel
theorem dX6_waysWithin_27 : decode cX6_waysWithin 27 = .ok (.iload_n 1, 1) := by decide +kernel
theorem dX6_waysWithin_28 : decode cX6_waysWithin 28 = .ok (.iconst 1, 1) := by decide +kernel
theorem dX6_waysWithin_29 : decode cX6_waysWithin 29 = .ok (.isub, 1) := by decide +kernel
theorem dX6_waysWithin_30 : decode cX6_waysWithin 30 = .ok (.i2l, 1) := by decide +kernel
theorem dX6_waysWithin_31 : decode cX6_waysWithin 31 = .ok (.iload_n 0, 1) := by decide +kernel
theorem dX6_waysWithin_32 : decode cX6_waysWithin 32 = .ok (.iload 8, 2) := by decide +kernel
theorem dX6_waysWithin_34 : decode cX6_waysWithin 34 = .ok (.isub, 1) := by decide +kernel
theorem dX6_waysWithin_35 : decode cX6_waysWithin 35 = .ok (.invokestatic 7, 3) := by decide +kernel
theorem dX6_waysWithin_38 : decode cX6_waysWithin 38 = .ok (.lmul, 1) := by decide +kernel
theorem dX6_waysWithin_39 : decode cX6_waysWithin 39 = .ok (.ladd, 1) := by decide +kernel
theorem dX6_waysWithin_40 : decode cX6_waysWithin 40 = .ok (.lstore 4, 2) := by decide +kernel
theorem dX6_waysWithin_42 : decode cX6_waysWithin 42 = .ok (.lload 6, 2) := by decide +kernel
theorem dX6_waysWithin_44 : decode cX6_waysWithin 44 = .ok (.iload_n 0, 1) := by decide +kernel
theorem dX6_waysWithin_45 : decode cX6_waysWithin 45 = .ok (.iload 8, 2) := by decide +kernel
theorem dX6_waysWithin_47 : decode cX6_waysWithin 47 = .ok (.isub, 1) := by decide +kernel
theorem dX6_waysWithin_48 : decode cX6_waysWithin 48 = .ok (.i2l, 1) := by decide +kernel
theorem dX6_waysWithin_49 : decode cX6_waysWithin 49 = .ok (.lmul, 1) := by decide +kernel
theorem dX6_waysWithin_50 : decode cX6_waysWithin 50 = .ok (.iload 8, 2) := by decide +kernel
theorem dX6_waysWithin_52 : decode cX6_waysWithin 52 = .ok (.iconst 1, 1) := by decide +kernel
theorem dX6_waysWithin_53 : decode cX6_waysWithin 53 = .ok (.iadd, 1) := by decide +kernel
theorem dX6_waysWithin_54 : decode cX6_waysWithin 54 = .ok (.i2l, 1) := by decide +kernel
theorem dX6_waysWithin_55 : decode cX6_waysWithin 55 = .ok (.ldiv, 1) := by decide +kernel
theorem dX6_waysWithin_56 : decode cX6_waysWithin 56 = .ok (.lstore 6, 2) := by decide +kernel
theorem dX6_waysWithin_58 : decode cX6_waysWithin 58 = .ok (.iinc 8 1, 3) := by decide +kernel
theorem dX6_waysWithin_61 : decode cX6_waysWithin 61 = .ok (.goto (-52), 3) := by decide +kernel
theorem dX6_waysWithin_64 : decode cX6_waysWithin 64 = .ok (.lload 4, 2) := by decide +kernel
theorem dX6_waysWithin_66 : decode cX6_waysWithin 66 = .ok (.lreturn, 1) := by decide +kernel
theorem dX6_partInLeastTerms_0 : decode cX6_partInLeastTerms 0 = .ok (.lload_n 0, 1) := by decide +kernel
theorem dX6_partInLeastTerms_1 : decode cX6_partInLeastTerms 1 = .ok (.lload_n 2, 1) := by decide +kernel
theorem dX6_partInLeastTerms_2 : decode cX6_partInLeastTerms 2 = .ok (.invokestatic 13, 3) := by decide +kernel
theorem dX6_partInLeastTerms_5 : decode cX6_partInLeastTerms 5 = .ok (.lstore 5, 2) := by decide +kernel
theorem dX6_partInLeastTerms_7 : decode cX6_partInLeastTerms 7 = .ok (.lload 5, 2) := by decide +kernel
theorem dX6_partInLeastTerms_9 : decode cX6_partInLeastTerms 9 = .ok (.lconst 0, 1) := by decide +kernel
theorem dX6_partInLeastTerms_10 : decode cX6_partInLeastTerms 10 = .ok (.lcmp, 1) := by decide +kernel
theorem dX6_partInLeastTerms_11 : decode cX6_partInLeastTerms 11 = .ok (.ifCond .ne 7, 3) := by decide +kernel
theorem dX6_partInLeastTerms_14 : decode cX6_partInLeastTerms 14 = .ok (.lconst 0, 1) := by decide +kernel
theorem dX6_partInLeastTerms_15 : decode cX6_partInLeastTerms 15 = .ok (.goto 16, 3) := by decide +kernel
theorem dX6_partInLeastTerms_18 : decode cX6_partInLeastTerms 18 = .ok (.iload 4, 2) := by decide +kernel
theorem dX6_partInLeastTerms_20 : decode cX6_partInLeastTerms 20 = .ok (.ifCond .ne 7, 3) := by decide +kernel
theorem dX6_partInLeastTerms_23 : decode cX6_partInLeastTerms 23 = .ok (.lload_n 0, 1) := by decide +kernel
theorem dX6_partInLeastTerms_24 : decode cX6_partInLeastTerms 24 = .ok (.goto 4, 3) := by decide +kernel
theorem dX6_partInLeastTerms_27 : decode cX6_partInLeastTerms 27 = .ok (.lload_n 2, 1) := by decide +kernel
theorem dX6_partInLeastTerms_28 : decode cX6_partInLeastTerms 28 = .ok (.lload 5, 2) := by decide +kernel
theorem dX6_partInLeastTerms_30 : decode cX6_partInLeastTerms 30 = .ok (.ldiv, 1) := by decide +kernel
theorem dX6_partInLeastTerms_31 : decode cX6_partInLeastTerms 31 = .ok (.lreturn, 1) := by decide +kernel
theorem dX6_commonDivisor_0 : decode cX6_commonDivisor 0 = .ok (.lload_n 0, 1) := by decide +kernel
theorem dX6_commonDivisor_1 : decode cX6_commonDivisor 1 = .ok (.lstore 4, 2) := by decide +kernel
theorem dX6_commonDivisor_3 : decode cX6_commonDivisor 3 = .ok (.lload_n 2, 1) := by decide +kernel
theorem dX6_commonDivisor_4 : decode cX6_commonDivisor 4 = .ok (.lstore 6, 2) := by decide +kernel
theorem dX6_commonDivisor_6 : decode cX6_commonDivisor 6 = .ok (.iconst 0, 1) := by decide +kernel
theorem dX6_commonDivisor_7 : decode cX6_commonDivisor 7 = .ok (.istore 8, 2) := by decide +kernel
theorem dX6_commonDivisor_9 : decode cX6_commonDivisor 9 = .ok (.iload 8, 2) := by decide +kernel
theorem dX6_commonDivisor_11 : decode cX6_commonDivisor 11 = .ok (.sipush 200, 3) := by decide +kernel
theorem dX6_commonDivisor_14 : decode cX6_commonDivisor 14 = .ok (.if_icmp .ge 31, 3) := by decide +kernel
theorem dX6_commonDivisor_17 : decode cX6_commonDivisor 17 = .ok (.lload 6, 2) := by decide +kernel
theorem dX6_commonDivisor_19 : decode cX6_commonDivisor 19 = .ok (.lconst 0, 1) := by decide +kernel
theorem dX6_commonDivisor_20 : decode cX6_commonDivisor 20 = .ok (.lcmp, 1) := by decide +kernel
theorem dX6_commonDivisor_21 : decode cX6_commonDivisor 21 = .ok (.ifCond .eq 24, 3) := by decide +kernel
theorem dX6_commonDivisor_24 : decode cX6_commonDivisor 24 = .ok (.lload 4, 2) := by decide +kernel
theorem dX6_commonDivisor_26 : decode cX6_commonDivisor 26 = .ok (.lload 6, 2) := by decide +kernel
theorem dX6_commonDivisor_28 : decode cX6_commonDivisor 28 = .ok (.lrem, 1) := by decide +kernel
theorem dX6_commonDivisor_29 : decode cX6_commonDivisor 29 = .ok (.lstore 9, 2) := by decide +kernel
theorem dX6_commonDivisor_31 : decode cX6_commonDivisor 31 = .ok (.lload 6, 2) := by decide +kernel
theorem dX6_commonDivisor_33 : decode cX6_commonDivisor 33 = .ok (.lstore 4, 2) := by decide +kernel
theorem dX6_commonDivisor_35 : decode cX6_commonDivisor 35 = .ok (.lload 9, 2) := by decide +kernel
theorem dX6_commonDivisor_37 : decode cX6_commonDivisor 37 = .ok (.lstore 6, 2) := by decide +kernel
theorem dX6_commonDivisor_39 : decode cX6_commonDivisor 39 = .ok (.iinc 8 1, 3) := by decide +kernel
theorem dX6_commonDivisor_42 : decode cX6_commonDivisor 42 = .ok (.goto (-33), 3) := by decide +kernel
theorem dX6_commonDivisor_45 : decode cX6_commonDivisor 45 = .ok (.lload 4, 2) := by decide +kernel
theorem dX6_commonDivisor_47 : decode cX6_commonDivisor 47 = .ok (.lreturn, 1) := by decide +kernel
theorem dX7_init_0 : decode cX7_init 0 = .ok (.aload_n 0, 1) := by decide +kernel
theorem dX7_init_1 : decode cX7_init 1 = .ok (.invokespecial 3, 3) := by decide +kernel
theorem dX7_init_4 : decode cX7_init 4 = .ok (.aload_n 0, 1) := by decide +kernel
theorem dX7_init_5 : decode cX7_init 5 = .ok (.iconst 0, 1) := by decide +kernel
theorem dX7_init_6 : decode cX7_init 6 = .ok (.putfield 9, 3) := by decide +kernel
theorem dX7_init_9 : decode cX7_init 9 = .ok (.aload_n 0, 1) := by decide +kernel
theorem dX7_init_10 : decode cX7_init 10 = .ok (.iconst 0, 1) := by decide +kernel
theorem dX7_init_11 : decode cX7_init 11 = .ok (.putfield 15, 3) := by decide +kernel
theorem dX7_init_14 : decode cX7_init 14 = .ok (.aload_n 0, 1) := by decide +kernel
theorem dX7_init_15 : decode cX7_init 15 = .ok (.bipush 10, 2) := by decide +kernel
theorem dX7_init_17 : decode cX7_init 17 = .ok (.newarray .int, 2) := by decide +kernel
theorem dX7_init_19 : decode cX7_init 19 = .ok (.putfield 18, 3) := by decide +kernel
theorem dX7_init_22 : decode cX7_init 22 = .ok (.aload_n 0, 1) := by decide +kernel
theorem dX7_init_23 : decode cX7_init 23 = .ok (.bipush 10, 2) := by decide +kernel
theorem dX7_init_25 : decode cX7_init 25 = .ok (.newarray .int, 2) := by decide +kernel
theorem dX7_init_27 : decode cX7_init 27 = .ok (.putfield 22, 3) := by decide +kernel
theorem dX7_init_30 : decode cX7_init 30 = .ok (.aload_n 0, 1) := by decide +kernel
theorem dX7_init_31 : decode cX7_init 31 = .ok (.bipush 10, 2) := by decide +kernel
theorem dX7_init_33 : decode cX7_init 33 = .ok (.newarray .int, 2) := by decide +kernel
theorem dX7_init_35 : decode cX7_init 35 = .ok (.putfield 25, 3) := by decide +kernel
theorem dX7_init_38 : decode cX7_init 38 = .ok (.aload_n 0, 1) := by decide +kernel
theorem dX7_init_39 : decode cX7_init 39 = .ok (.bipush 11, 2) := by decide +kernel
theorem dX7_init_41 : decode cX7_init 41 = .ok (.bipush 100, 2) := by decide +kernel
theorem dX7_init_43 : decode cX7_init 43 = .ok (.multianewarray 28 2, 4) := by decide +kernel
theorem dX7_init_47 : decode cX7_init 47 = .ok (.putfield 30, 3) := by decide +kernel
theorem dX7_init_50 : decode cX7_init 50 = .ok (.aload_n 0, 1) := by decide +kernel
theorem dX7_init_51 : decode cX7_init 51 = .ok (.sipush 3100, 3) := by decide +kernel
theorem dX7_init_54 : decode cX7_init 54 = .ok (.newarray .int, 2) := by decide +kernel
theorem dX7_init_56 : decode cX7_init 56 = .ok (.putfield 33, 3) := by decide +kernel
theorem dX7_init_59 : decode cX7_init 59 = .ok (.aload_n 0, 1) := by decide +kernel
theorem dX7_init_60 : decode cX7_init 60 = .ok (.sipush 3100, 3) := by decide +kernel
theorem dX7_init_63 : decode cX7_init 63 = .ok (.newarray .int, 2) := by decide +kernel
theorem dX7_init_65 : decode cX7_init 65 = .ok (.putfield 36, 3) := by decide +kernel
theorem dX7_init_68 : decode cX7_init 68 = .ok (.return_, 1) := by decide +kernel
theorem dX7_look_0 : decode cX7_look 0 = .ok (.aload_n 0, 1) := by decide +kernel
theorem dX7_look_1 : decode cX7_look 1 = .ok (.aload_n 1, 1) := by decide +kernel
theorem dX7_look_2 : decode cX7_look 2 = .ok (.getfield 39, 3) := by decide +kernel
theorem dX7_look_5 : decode cX7_look 5 = .ok (.putfield 9, 3) := by decide +kernel
theorem dX7_look_8 : decode cX7_look 8 = .ok (.aload_n 0, 1) := by decide +kernel
theorem dX7_look_9 : decode cX7_look 9 = .ok (.aload_n 2, 1) := by decide +kernel
theorem dX7_look_10 : decode cX7_look 10 = .ok (.getfield 42, 3) := by decide +kernel
theorem dX7_look_13 : decode cX7_look 13 = .ok (.iconst 3, 1) := by decide +kernel
theorem dX7_look_14 : decode cX7_look 14 = .ok (.iaload, 1) := by decide +kernel
theorem dX7_look_15 : decode cX7_look 15 = .ok (.putfield 15, 3) := by decide +kernel
theorem dX7_look_18 : decode cX7_look 18 = .ok (.iconst 0, 1) := by decide +kernel
theorem dX7_look_19 : decode cX7_look 19 = .ok (.istore_n 3, 1) := by decide +kernel
theorem dX7_look_20 : decode cX7_look 20 = .ok (.iload_n 3, 1) := by decide +kernel
theorem dX7_look_21 : decode cX7_look 21 = .ok (.aload_n 0, 1) := by decide +kernel
theorem dX7_look_22 : decode cX7_look 22 = .ok (.getfield 9, 3) := by decide +kernel
theorem dX7_look_25 : decode cX7_look 25 = .ok (.if_icmp .ge 45, 3) := by decide +kernel
theorem dX7_look_28 : decode cX7_look 28 = .ok (.aload_n 0, 1) := by decide +kernel
theorem dX7_look_29 : decode cX7_look 29 = .ok (.getfield 18, 3) := by decide +kernel
theorem dX7_look_32 : decode cX7_look 32 = .ok (.iload_n 3, 1) := by decide +kernel
theorem dX7_look_33 : decode cX7_look 33 = .ok (.aload_n 1, 1) := by decide +kernel
theorem dX7_look_34 : decode cX7_look 34 = .ok (.getfield 47, 3) := by decide +kernel
theorem dX7_look_37 : decode cX7_look 37 = .ok (.iload_n 3, 1) := by decide +kernel
theorem dX7_look_38 : decode cX7_look 38 = .ok (.iaload, 1) := by decide +kernel
theorem dX7_look_39 : decode cX7_look 39 = .ok (.iastore, 1) := by decide +kernel
theorem dX7_look_40 : decode cX7_look 40 = .ok (.aload_n 0, 1) := by decide +kernel
theorem dX7_look_41 : decode cX7_look 41 = .ok (.getfield 22, 3) := by decide +kernel
theorem dX7_look_44 : decode cX7_look 44 = .ok (.iload_n 3, 1) := by decide +kernel
theorem dX7_look_45 : decode cX7_look 45 = .ok (.aload_n 1, 1) := by decide +kernel
theorem dX7_look_46 : decode cX7_look 46 = .ok (.getfield 48, 3) := by decide +kernel
theorem dX7_look_49 : decode cX7_look 49 = .ok (.iload_n 3, 1) := by decide +kernel
theorem dX7_look_50 : decode cX7_look 50 = .ok (.iaload, 1) := by decide +kernel
theorem dX7_look_51 : decode cX7_look 51 = .ok (.iastore, 1) := by decide +kernel
theorem dX7_look_52 : decode cX7_look 52 = .ok (.aload_n 0, 1) := by decide +kernel
theorem dX7_look_53 : decode cX7_look 53 = .ok (.getfield 25, 3) := by decide +kernel
theorem dX7_look_56 : decode cX7_look 56 = .ok (.iload_n 3, 1) := by decide +kernel
theorem dX7_look_57 : decode cX7_look 57 = .ok (.aload_n 1, 1) := by decide +kernel
theorem dX7_look_58 : decode cX7_look 58 = .ok (.iload_n 3, 1) := by decide +kernel
theorem dX7_look_59 : decode cX7_look 59 = .ok (.aload_n 2, 1) := by decide +kernel
theorem dX7_look_60 : decode cX7_look 60 = .ok (.invokevirtual 49, 3) := by decide +kernel
theorem dX7_look_63 : decode cX7_look 63 = .ok (.iastore, 1) := by decide +kernel
theorem dX7_look_64 : decode cX7_look 64 = .ok (.iinc 3 1, 3) := by decide +kernel
theorem dX7_look_67 : decode cX7_look 67 = .ok (.goto (-47), 3) := by decide +kernel
theorem dX7_look_70 : decode cX7_look 70 = .ok (.return_, 1) := by decide +kernel
theorem dX7_secondsFrom_0 : decode cX7_secondsFrom 0 = .ok (.aload_n 0, 1) := by decide +kernel
theorem dX7_secondsFrom_1 : decode cX7_secondsFrom 1 = .ok (.getfield 18, 3) := by decide +kernel
theorem dX7_secondsFrom_4 : decode cX7_secondsFrom 4 = .ok (.iload_n 1, 1) := by decide +kernel
theorem dX7_secondsFrom_5 : decode cX7_secondsFrom 5 = .ok (.iaload, 1) := by decide +kernel
theorem dX7_secondsFrom_6 : decode cX7_secondsFrom 6 = .ok (.aload_n 0, 1) := by decide +kernel
theorem dX7_secondsFrom_7 : decode cX7_secondsFrom 7 = .ok (.getfield 22, 3) := by decide +kernel
theorem dX7_secondsFrom_10 : decode cX7_secondsFrom 10 = .ok (.iload_n 1, 1) := by decide +kernel
theorem dX7_secondsFrom_11 : decode cX7_secondsFrom 11 = .ok (.iaload, 1) := by decide +kernel
theorem dX7_secondsFrom_12 : decode cX7_secondsFrom 12 = .ok (.iload_n 3, 1) := by decide +kernel
theorem dX7_secondsFrom_13 : decode cX7_secondsFrom 13 = .ok (.iload_n 2, 1) := by decide +kernel
theorem dX7_secondsFrom_14 : decode cX7_secondsFrom 14 = .ok (.invokestatic 52, 3) := by decide +kernel
theorem dX7_secondsFrom_17 : decode cX7_secondsFrom 17 = .ok (.istore 4, 2) := by decide +kernel
theorem dX7_secondsFrom_19 : decode cX7_secondsFrom 19 = .ok (.aload_n 0, 1) := by decide +kernel
theorem dX7_secondsFrom_20 : decode cX7_secondsFrom 20 = .ok (.getfield 25, 3) := by decide +kernel
theorem dX7_secondsFrom_23 : decode cX7_secondsFrom 23 = .ok (.iload_n 1, 1) := by decide +kernel
theorem dX7_secondsFrom_24 : decode cX7_secondsFrom 24 = .ok (.iaload, 1) := by decide +kernel
theorem dX7_secondsFrom_25 : decode cX7_secondsFrom 25 = .ok (.iload_n 3, 1) := by decide +kernel
theorem dX7_secondsFrom_26 : decode cX7_secondsFrom 26 = .ok (.iload_n 2, 1) := by decide +kernel
theorem dX7_secondsFrom_27 : decode cX7_secondsFrom 27 = .ok (.invokestatic 58, 3) := by decide +kernel
theorem dX7_secondsFrom_30 : decode cX7_secondsFrom 30 = .ok (.aload_n 0, 1) := by decide +kernel
theorem dX7_secondsFrom_31 : decode cX7_secondsFrom 31 = .ok (.getfield 30, 3) := by decide +kernel
theorem dX7_secondsFrom_34 : decode cX7_secondsFrom 34 = .ok (.iload_n 1, 1) := by decide +kernel
theorem dX7_secondsFrom_35 : decode cX7_secondsFrom 35 = .ok (.iconst 1, 1) := by decide +kernel
theorem dX7_secondsFrom_36 : decode cX7_secondsFrom 36 = .ok (.iadd, 1) := by decide +kernel
theorem dX7_secondsFrom_37 : decode cX7_secondsFrom 37 = .ok (.aaload, 1) := by decide +kernel
theorem dX7_secondsFrom_38 : decode cX7_secondsFrom 38 = .ok (.iload 4, 2) := by decide +kernel
theorem dX7_secondsFrom_40 : decode cX7_secondsFrom 40 = .ok (.iaload, 1) := by decide +kernel
theorem dX7_secondsFrom_41 : decode cX7_secondsFrom 41 = .ok (.iadd, 1) := by decide +kernel
theorem dX7_secondsFrom_42 : decode cX7_secondsFrom 42 = .ok (.ireturn, 1) := by decide +kernel
theorem dX7_easiestBest_0 : decode cX7_easiestBest 0 = .ok (.iconst 0, 1) := by decide +kernel
theorem dX7_easiestBest_1 : decode cX7_easiestBest 1 = .ok (.istore_n 3, 1) := by decide +kernel
theorem dX7_easiestBest_2 : decode cX7_easiestBest 2 = .ok (.iconst 1, 1) := by decide +kernel
theorem dX7_easiestBest_3 : decode cX7_easiestBest 3 = .ok (.istore 4, 2) := by decide +kernel
theorem dX7_easiestBest_5 : decode cX7_easiestBest 5 = .ok (.iload 4, 2) := by decide +kernel
theorem dX7_easiestBest_7 : decode cX7_easiestBest 7 = .ok (.iconst 3, 1) := by decide +kernel
theorem dX7_easiestBest_8 : decode cX7_easiestBest 8 = .ok (.if_icmp .gt 30, 3) := by decide +kernel
theorem dX7_easiestBest_11 : decode cX7_easiestBest 11 = .ok (.aload_n 0, 1) := by decide +kernel
theorem dX7_easiestBest_12 : decode cX7_easiestBest 12 = .ok (.iload_n 1, 1) := by decide +kernel
theorem dX7_easiestBest_13 : decode cX7_easiestBest 13 = .ok (.iload_n 2, 1) := by decide +kernel
theorem dX7_easiestBest_14 : decode cX7_easiestBest 14 = .ok (.iload 4, 2) := by decide +kernel
theorem dX7_easiestBest_16 : decode cX7_easiestBest 16 = .ok (.invokevirtual 62, 3) := by decide +kernel
theorem dX7_easiestBest_19 : decode cX7_easiestBest 19 = .ok (.aload_n 0, 1) := by decide +kernel
theorem dX7_easiestBest_20 : decode cX7_easiestBest 20 = .ok (.iload_n 1, 1) := by decide +kernel
theorem dX7_easiestBest_21 : decode cX7_easiestBest 21 = .ok (.iload_n 2, 1) := by decide +kernel
theorem dX7_easiestBest_22 : decode cX7_easiestBest 22 = .ok (.iload_n 3, 1) := by decide +kernel
theorem dX7_easiestBest_23 : decode cX7_easiestBest 23 = .ok (.invokevirtual 62, 3) := by decide +kernel
theorem dX7_easiestBest_26 : decode cX7_easiestBest 26 = .ok (.if_icmp .ge 6, 3) := by decide +kernel
theorem dX7_easiestBest_29 : decode cX7_easiestBest 29 = .ok (.iload 4, 2) := by decide +kernel
theorem dX7_easiestBest_31 : decode cX7_easiestBest 31 = .ok (.istore_n 3, 1) := by decide +kernel
theorem dX7_easiestBest_32 : decode cX7_easiestBest 32 = .ok (.iinc 4 1, 3) := by decide +kernel
theorem dX7_easiestBest_35 : decode cX7_easiestBest 35 = .ok (.goto (-30), 3) := by decide +kernel
theorem dX7_easiestBest_38 : decode cX7_easiestBest 38 = .ok (.iload_n 3, 1) := by decide +kernel
theorem dX7_easiestBest_39 : decode cX7_easiestBest 39 = .ok (.ireturn, 1) := by decide +kernel
theorem dX7_leastFinish_0 : decode cX7_leastFinish 0 = .ok (.iconst 0, 1) := by decide +kernel
theorem dX7_leastFinish_1 : decode cX7_leastFinish 1 = .ok (.istore_n 1, 1) := by decide +kernel
theorem dX7_leastFinish_2 : decode cX7_leastFinish 2 = .ok (.iload_n 1, 1) := by decide +kernel
theorem dX7_leastFinish_3 : decode cX7_leastFinish 3 = .ok (.bipush 100, 2) := by decide +kernel
theorem dX7_leastFinish_5 : decode cX7_leastFinish 5 = .ok (.if_icmp .ge 21, 3) := by decide +kernel
theorem dX7_leastFinish_8 : decode cX7_leastFinish 8 = .ok (.aload_n 0, 1) := by decide +kernel
theorem dX7_leastFinish_9 : decode cX7_leastFinish 9 = .ok (.getfield 30, 3) := by decide +kernel
theorem dX7_leastFinish_12 : decode cX7_leastFinish 12 = .ok (.aload_n 0, 1) := by decide +kernel
theorem dX7_leastFinish_13 : decode cX7_leastFinish 13 = .ok (.getfield 9, 3) := by decide +kernel
theorem dX7_leastFinish_16 : decode cX7_leastFinish 16 = .ok (.aaload, 1) := by decide +kernel
theorem dX7_leastFinish_17 : decode cX7_leastFinish 17 = .ok (.iload_n 1, 1) := by decide +kernel
theorem dX7_leastFinish_18 : decode cX7_leastFinish 18 = .ok (.iconst 0, 1) := by decide +kernel
theorem dX7_leastFinish_19 : decode cX7_leastFinish 19 = .ok (.iastore, 1) := by decide +kernel
theorem dX7_leastFinish_20 : decode cX7_leastFinish 20 = .ok (.iinc 1 1, 3) := by decide +kernel
theorem dX7_leastFinish_23 : decode cX7_leastFinish 23 = .ok (.goto (-21), 3) := by decide +kernel
theorem dX7_leastFinish_26 : decode cX7_leastFinish 26 = .ok (.aload_n 0, 1) := by decide +kernel
theorem dX7_leastFinish_27 : decode cX7_leastFinish 27 = .ok (.getfield 9, 3) := by decide +kernel
theorem dX7_leastFinish_30 : decode cX7_leastFinish 30 = .ok (.iconst 1, 1) := by decide +kernel
theorem dX7_leastFinish_31 : decode cX7_leastFinish 31 = .ok (.isub, 1) := by decide +kernel
theorem dX7_leastFinish_32 : decode cX7_leastFinish 32 = .ok (.istore_n 1, 1) := by decide +kernel
theorem dX7_leastFinish_33 : decode cX7_leastFinish 33 = .ok (.iload_n 1, 1) := by decide +kernel
theorem dX7_leastFinish_34 : decode cX7_leastFinish 34 = .ok (.ifCond .lt 43, 3) := by decide +kernel
theorem dX7_leastFinish_37 : decode cX7_leastFinish 37 = .ok (.iconst 0, 1) := by decide +kernel
theorem dX7_leastFinish_38 : decode cX7_leastFinish 38 = .ok (.istore_n 2, 1) := by decide +kernel
theorem dX7_leastFinish_39 : decode cX7_leastFinish 39 = .ok (.iload_n 2, 1) := by decide +kernel
theorem dX7_leastFinish_40 : decode cX7_leastFinish 40 = .ok (.bipush 100, 2) := by decide +kernel
theorem dX7_leastFinish_42 : decode cX7_leastFinish 42 = .ok (.if_icmp .ge 29, 3) := by decide +kernel
theorem dX7_leastFinish_45 : decode cX7_leastFinish 45 = .ok (.aload_n 0, 1) := by decide +kernel
theorem dX7_leastFinish_46 : decode cX7_leastFinish 46 = .ok (.getfield 30, 3) := by decide +kernel
theorem dX7_leastFinish_49 : decode cX7_leastFinish 49 = .ok (.iload_n 1, 1) := by decide +kernel
theorem dX7_leastFinish_50 : decode cX7_leastFinish 50 = .ok (.aaload, 1) := by decide +kernel
theorem dX7_leastFinish_51 : decode cX7_leastFinish 51 = .ok (.iload_n 2, 1) := by decide +kernel
theorem dX7_leastFinish_52 : decode cX7_leastFinish 52 = .ok (.aload_n 0, 1) := by decide +kernel
theorem dX7_leastFinish_53 : decode cX7_leastFinish 53 = .ok (.iload_n 1, 1) := by decide +kernel
theorem dX7_leastFinish_54 : decode cX7_leastFinish 54 = .ok (.iload_n 2, 1) := by decide +kernel
theorem dX7_leastFinish_55 : decode cX7_leastFinish 55 = .ok (.aload_n 0, 1) := by decide +kernel
theorem dX7_leastFinish_56 : decode cX7_leastFinish 56 = .ok (.iload_n 1, 1) := by decide +kernel
theorem dX7_leastFinish_57 : decode cX7_leastFinish 57 = .ok (.iload_n 2, 1) := by decide +kernel
theorem dX7_leastFinish_58 : decode cX7_leastFinish 58 = .ok (.invokevirtual 65, 3) := by decide +kernel
theorem dX7_leastFinish_61 : decode cX7_leastFinish 61 = .ok (.invokevirtual 62, 3) := by decide +kernel
theorem dX7_leastFinish_64 : decode cX7_leastFinish 64 = .ok (.iastore, 1) := by decide +kernel
theorem dX7_leastFinish_65 : decode cX7_leastFinish 65 = .ok (.iinc 2 1, 3) := by decide +kernel
theorem dX7_leastFinish_68 : decode cX7_leastFinish 68 = .ok (.goto (-29), 3) := by decide +kernel
theorem dX7_leastFinish_71 : decode cX7_leastFinish 71 = .ok (.iinc 1 (-1), 3) := by decide +kernel
theorem dX7_leastFinish_74 : decode cX7_leastFinish 74 = .ok (.goto (-41), 3) := by decide +kernel
theorem dX7_leastFinish_77 : decode cX7_leastFinish 77 = .ok (.aload_n 0, 1) := by decide +kernel
theorem dX7_leastFinish_78 : decode cX7_leastFinish 78 = .ok (.getfield 30, 3) := by decide +kernel
theorem dX7_leastFinish_81 : decode cX7_leastFinish 81 = .ok (.iconst 0, 1) := by decide +kernel
theorem dX7_leastFinish_82 : decode cX7_leastFinish 82 = .ok (.aaload, 1) := by decide +kernel
theorem dX7_leastFinish_83 : decode cX7_leastFinish 83 = .ok (.aload_n 0, 1) := by decide +kernel
theorem dX7_leastFinish_84 : decode cX7_leastFinish 84 = .ok (.getfield 15, 3) := by decide +kernel
theorem dX7_leastFinish_87 : decode cX7_leastFinish 87 = .ok (.iaload, 1) := by decide +kernel
theorem dX7_leastFinish_88 : decode cX7_leastFinish 88 = .ok (.ireturn, 1) := by decide +kernel
theorem dX7_bestTries_0 : decode cX7_bestTries 0 = .ok (.aload_n 0, 1) := by decide +kernel
theorem dX7_bestTries_1 : decode cX7_bestTries 1 = .ok (.invokevirtual 69, 3) := by decide +kernel
theorem dX7_bestTries_4 : decode cX7_bestTries 4 = .ok (.pop, 1) := by decide +kernel
theorem dX7_bestTries_5 : decode cX7_bestTries 5 = .ok (.aload_n 0, 1) := by decide +kernel
theorem dX7_bestTries_6 : decode cX7_bestTries 6 = .ok (.getfield 15, 3) := by decide +kernel
theorem dX7_bestTries_9 : decode cX7_bestTries 9 = .ok (.istore_n 2, 1) := by decide +kernel
theorem dX7_bestTries_10 : decode cX7_bestTries 10 = .ok (.iconst 0, 1) := by decide +kernel
theorem dX7_bestTries_11 : decode cX7_bestTries 11 = .ok (.istore_n 3, 1) := by decide +kernel
theorem dX7_bestTries_12 : decode cX7_bestTries 12 = .ok (.iload_n 3, 1) := by decide +kernel
theorem dX7_bestTries_13 : decode cX7_bestTries 13 = .ok (.iload_n 1, 1) := by decide +kernel
theorem dX7_bestTries_14 : decode cX7_bestTries 14 = .ok (.if_icmp .ge 40, 3) := by decide +kernel
theorem dX7_bestTries_17 : decode cX7_bestTries 17 = .ok (.iload_n 3, 1) := by decide +kernel
theorem dX7_bestTries_18 : decode cX7_bestTries 18 = .ok (.aload_n 0, 1) := by decide +kernel
theorem dX7_bestTries_19 : decode cX7_bestTries 19 = .ok (.getfield 9, 3) := by decide +kernel
theorem dX7_bestTries_22 : decode cX7_bestTries 22 = .ok (.if_icmp .ge 32, 3) := by decide +kernel
theorem dX7_bestTries_25 : decode cX7_bestTries 25 = .ok (.aload_n 0, 1) := by decide +kernel
theorem dX7_bestTries_26 : decode cX7_bestTries 26 = .ok (.getfield 18, 3) := by decide +kernel
theorem dX7_bestTries_29 : decode cX7_bestTries 29 = .ok (.iload_n 3, 1) := by decide +kernel
theorem dX7_bestTries_30 : decode cX7_bestTries 30 = .ok (.iaload, 1) := by decide +kernel
theorem dX7_bestTries_31 : decode cX7_bestTries 31 = .ok (.aload_n 0, 1) := by decide +kernel
theorem dX7_bestTries_32 : decode cX7_bestTries 32 = .ok (.getfield 22, 3) := by decide +kernel
theorem dX7_bestTries_35 : decode cX7_bestTries 35 = .ok (.iload_n 3, 1) := by decide +kernel
theorem dX7_bestTries_36 : decode cX7_bestTries 36 = .ok (.iaload, 1) := by decide +kernel
theorem dX7_bestTries_37 : decode cX7_bestTries 37 = .ok (.aload_n 0, 1) := by decide +kernel
theorem dX7_bestTries_38 : decode cX7_bestTries 38 = .ok (.iload_n 3, 1) := by decide +kernel
theorem dX7_bestTries_39 : decode cX7_bestTries 39 = .ok (.iload_n 2, 1) := by decide +kernel
theorem dX7_bestTries_40 : decode cX7_bestTries 40 = .ok (.invokevirtual 65, 3) := by decide +kernel
theorem dX7_bestTries_43 : decode cX7_bestTries 43 = .ok (.iload_n 2, 1) := by decide +kernel
theorem dX7_bestTries_44 : decode cX7_bestTries 44 = .ok (.invokestatic 52, 3) := by decide +kernel
theorem dX7_bestTries_47 : decode cX7_bestTries 47 = .ok (.istore_n 2, 1) := by decide +kernel
theorem dX7_bestTries_48 : decode cX7_bestTries 48 = .ok (.iinc 3 1, 3) := by decide +kernel
theorem dX7_bestTries_51 : decode cX7_bestTries 51 = .ok (.goto (-39), 3) := by decide +kernel
theorem dX7_bestTries_54 : decode cX7_bestTries 54 = .ok (.iload_n 1, 1) := by decide +kernel
theorem dX7_bestTries_55 : decode cX7_bestTries 55 = .ok (.ifCond .lt 20, 3) := by decide +kernel
theorem dX7_bestTries_58 : decode cX7_bestTries 58 = .ok (.iload_n 1, 1) := by decide +kernel
theorem dX7_bestTries_59 : decode cX7_bestTries 59 = .ok (.aload_n 0, 1) := by decide +kernel
theorem dX7_bestTries_60 : decode cX7_bestTries 60 = .ok (.getfield 9, 3) := by decide +kernel
theorem dX7_bestTries_63 : decode cX7_bestTries 63 = .ok (.if_icmp .ge 12, 3) := by decide +kernel
theorem dX7_bestTries_66 : decode cX7_bestTries 66 = .ok (.aload_n 0, 1) := by decide +kernel
theorem dX7_bestTries_67 : decode cX7_bestTries 67 = .ok (.iload_n 1, 1) := by decide +kernel
theorem dX7_bestTries_68 : decode cX7_bestTries 68 = .ok (.iload_n 2, 1) := by decide +kernel
theorem dX7_bestTries_69 : decode cX7_bestTries 69 = .ok (.invokevirtual 65, 3) := by decide +kernel
theorem dX7_bestTries_72 : decode cX7_bestTries 72 = .ok (.goto 5, 3) := by decide +kernel
theorem dX7_bestTries_75 : decode cX7_bestTries 75 = .ok (.bipush (-9), 2) := by decide +kernel
theorem dX7_bestTries_77 : decode cX7_bestTries 77 = .ok (.ireturn, 1) := by decide +kernel
theorem dX7_fewestTries_0 : decode cX7_fewestTries 0 = .ok (.aload_n 0, 1) := by decide +kernel
theorem dX7_fewestTries_1 : decode cX7_fewestTries 1 = .ok (.invokevirtual 73, 3) := by decide +kernel
theorem dX7_fewestTries_4 : decode cX7_fewestTries 4 = .ok (.aload_n 0, 1) := by decide +kernel
theorem dX7_fewestTries_5 : decode cX7_fewestTries 5 = .ok (.getfield 36, 3) := by decide +kernel
theorem dX7_fewestTries_8 : decode cX7_fewestTries 8 = .ok (.aload_n 0, 1) := by decide +kernel
theorem dX7_fewestTries_9 : decode cX7_fewestTries 9 = .ok (.getfield 15, 3) := by decide +kernel
theorem dX7_fewestTries_12 : decode cX7_fewestTries 12 = .ok (.iconst 0, 1) := by decide +kernel
theorem dX7_fewestTries_13 : decode cX7_fewestTries 13 = .ok (.iastore, 1) := by decide +kernel
theorem dX7_fewestTries_14 : decode cX7_fewestTries 14 = .ok (.iconst 0, 1) := by decide +kernel
theorem dX7_fewestTries_15 : decode cX7_fewestTries 15 = .ok (.istore_n 2, 1) := by decide +kernel
theorem dX7_fewestTries_16 : decode cX7_fewestTries 16 = .ok (.iload_n 2, 1) := by decide +kernel
theorem dX7_fewestTries_17 : decode cX7_fewestTries 17 = .ok (.aload_n 0, 1) := by decide +kernel
theorem dX7_fewestTries_18 : decode cX7_fewestTries 18 = .ok (.getfield 9, 3) := by decide +kernel
theorem dX7_fewestTries_21 : decode cX7_fewestTries 21 = .ok (.if_icmp .ge 35, 3) := by decide +kernel
theorem dX7_fewestTries_24 : decode cX7_fewestTries 24 = .ok (.aload_n 0, 1) := by decide +kernel
theorem dX7_fewestTries_25 : decode cX7_fewestTries 25 = .ok (.invokevirtual 76, 3) := by decide +kernel
theorem dX7_fewestTries_28 : decode cX7_fewestTries 28 = .ok (.iconst 0, 1) := by decide +kernel
theorem dX7_fewestTries_29 : decode cX7_fewestTries 29 = .ok (.istore_n 3, 1) := by decide +kernel
theorem dX7_fewestTries_30 : decode cX7_fewestTries 30 = .ok (.iload_n 3, 1) := by decide +kernel
theorem dX7_fewestTries_31 : decode cX7_fewestTries 31 = .ok (.iload_n 2, 1) := by decide +kernel
theorem dX7_fewestTries_32 : decode cX7_fewestTries 32 = .ok (.iconst 3, 1) := by decide +kernel
theorem dX7_fewestTries_33 : decode cX7_fewestTries 33 = .ok (.imul, 1) := by decide +kernel
theorem dX7_fewestTries_34 : decode cX7_fewestTries 34 = .ok (.if_icmp .gt 16, 3) := by decide +kernel
theorem dX7_fewestTries_37 : decode cX7_fewestTries 37 = .ok (.aload_n 0, 1) := by decide +kernel
theorem dX7_fewestTries_38 : decode cX7_fewestTries 38 = .ok (.iload_n 2, 1) := by decide +kernel
theorem dX7_fewestTries_39 : decode cX7_fewestTries 39 = .ok (.iload_n 3, 1) := by decide +kernel
theorem dX7_fewestTries_40 : decode cX7_fewestTries 40 = .ok (.iload_n 1, 1) := by decide +kernel
theorem dX7_fewestTries_41 : decode cX7_fewestTries 41 = .ok (.invokevirtual 79, 3) := by decide +kernel
theorem dX7_fewestTries_44 : decode cX7_fewestTries 44 = .ok (.iinc 3 1, 3) := by decide +kernel
theorem dX7_fewestTries_47 : decode cX7_fewestTries 47 = .ok (.goto (-17), 3) := by decide +kernel
theorem dX7_fewestTries_50 : decode cX7_fewestTries 50 = .ok (.iinc 2 1, 3) := by decide +kernel
theorem dX7_fewestTries_53 : decode cX7_fewestTries 53 = .ok (.goto (-37), 3) := by decide +kernel
theorem dX7_fewestTries_56 : decode cX7_fewestTries 56 = .ok (.iconst 0, 1) := by decide +kernel
theorem dX7_fewestTries_57 : decode cX7_fewestTries 57 = .ok (.istore_n 2, 1) := by decide +kernel
theorem dX7_fewestTries_58 : decode cX7_fewestTries 58 = .ok (.iload_n 2, 1) := by decide +kernel
theorem dX7_fewestTries_59 : decode cX7_fewestTries 59 = .ok (.aload_n 0, 1) := by decide +kernel
theorem dX7_fewestTries_60 : decode cX7_fewestTries 60 = .ok (.getfield 36, 3) := by decide +kernel
theorem dX7_fewestTries_63 : decode cX7_fewestTries 63 = .ok (.arraylength, 1) := by decide +kernel
theorem dX7_fewestTries_64 : decode cX7_fewestTries 64 = .ok (.if_icmp .ge 24, 3) := by decide +kernel
theorem dX7_fewestTries_67 : decode cX7_fewestTries 67 = .ok (.aload_n 0, 1) := by decide +kernel
theorem dX7_fewestTries_68 : decode cX7_fewestTries 68 = .ok (.getfield 36, 3) := by decide +kernel
theorem dX7_fewestTries_71 : decode cX7_fewestTries 71 = .ok (.iload_n 2, 1) := by decide +kernel
theorem dX7_fewestTries_72 : decode cX7_fewestTries 72 = .ok (.iaload, 1) := by decide +kernel
theorem dX7_fewestTries_73 : decode cX7_fewestTries 73 = .ok (.iload_n 1, 1) := by decide +kernel
theorem dX7_fewestTries_74 : decode cX7_fewestTries 74 = .ok (.if_icmp .gt 8, 3) := by decide +kernel
theorem dX7_fewestTries_77 : decode cX7_fewestTries 77 = .ok (.iload_n 2, 1) := by decide +kernel
theorem dX7_fewestTries_78 : decode cX7_fewestTries 78 = .ok (.bipush 100, 2) := by decide +kernel
theorem dX7_fewestTries_80 : decode cX7_fewestTries 80 = .ok (.idiv, 1) := by decide +kernel
theorem dX7_fewestTries_81 : decode cX7_fewestTries 81 = .ok (.ireturn, 1) := by decide +kernel
theorem dX7_fewestTries_82 : decode cX7_fewestTries 82 = .ok (.iinc 2 1, 3) := by decide +kernel
theorem dX7_fewestTries_85 : decode cX7_fewestTries 85 = .ok (.goto (-27), 3) := by decide +kernel
theorem dX7_fewestTries_88 : decode cX7_fewestTries 88 = .ok (.bipush (-9), 2) := by decide +kernel
theorem dX7_fewestTries_90 : decode cX7_fewestTries 90 = .ok (.ireturn, 1) := by decide +kernel
theorem dX7_emptyNext_0 : decode cX7_emptyNext 0 = .ok (.iconst 0, 1) := by decide +kernel
theorem dX7_emptyNext_1 : decode cX7_emptyNext 1 = .ok (.istore_n 1, 1) := by decide +kernel
theorem dX7_emptyNext_2 : decode cX7_emptyNext 2 = .ok (.iload_n 1, 1) := by decide +kernel
theorem dX7_emptyNext_3 : decode cX7_emptyNext 3 = .ok (.aload_n 0, 1) := by decide +kernel
theorem dX7_emptyNext_4 : decode cX7_emptyNext 4 = .ok (.getfield 36, 3) := by decide +kernel
theorem dX7_emptyNext_7 : decode cX7_emptyNext 7 = .ok (.arraylength, 1) := by decide +kernel
theorem dX7_emptyNext_8 : decode cX7_emptyNext 8 = .ok (.if_icmp .ge 17, 3) := by decide +kernel
theorem dX7_emptyNext_11 : decode cX7_emptyNext 11 = .ok (.aload_n 0, 1) := by decide +kernel
theorem dX7_emptyNext_12 : decode cX7_emptyNext 12 = .ok (.getfield 36, 3) := by decide +kernel
theorem dX7_emptyNext_15 : decode cX7_emptyNext 15 = .ok (.iload_n 1, 1) := by decide +kernel
theorem dX7_emptyNext_16 : decode cX7_emptyNext 16 = .ok (.ldc 83, 2) := by decide +kernel
theorem dX7_emptyNext_18 : decode cX7_emptyNext 18 = .ok (.iastore, 1) := by decide +kernel
theorem dX7_emptyNext_19 : decode cX7_emptyNext 19 = .ok (.iinc 1 1, 3) := by decide +kernel
theorem dX7_emptyNext_22 : decode cX7_emptyNext 22 = .ok (.goto (-20), 3) := by decide +kernel
theorem dX7_emptyNext_25 : decode cX7_emptyNext 25 = .ok (.return_, 1) := by decide +kernel
theorem dX7_takeNext_0 : decode cX7_takeNext 0 = .ok (.aload_n 0, 1) := by decide +kernel
theorem dX7_takeNext_1 : decode cX7_takeNext 1 = .ok (.getfield 33, 3) := by decide +kernel
theorem dX7_takeNext_4 : decode cX7_takeNext 4 = .ok (.astore_n 1, 1) := by decide +kernel
theorem dX7_takeNext_5 : decode cX7_takeNext 5 = .ok (.aload_n 0, 1) := by decide +kernel
theorem dX7_takeNext_6 : decode cX7_takeNext 6 = .ok (.aload_n 0, 1) := by decide +kernel
theorem dX7_takeNext_7 : decode cX7_takeNext 7 = .ok (.getfield 36, 3) := by decide +kernel
theorem dX7_takeNext_10 : decode cX7_takeNext 10 = .ok (.putfield 33, 3) := by decide +kernel
theorem dX7_takeNext_13 : decode cX7_takeNext 13 = .ok (.aload_n 0, 1) := by decide +kernel
theorem dX7_takeNext_14 : decode cX7_takeNext 14 = .ok (.aload_n 1, 1) := by decide +kernel
theorem dX7_takeNext_15 : decode cX7_takeNext 15 = .ok (.putfield 36, 3) := by decide +kernel
theorem dX7_takeNext_18 : decode cX7_takeNext 18 = .ok (.aload_n 0, 1) := by decide +kernel
theorem dX7_takeNext_19 : decode cX7_takeNext 19 = .ok (.invokevirtual 73, 3) := by decide +kernel
theorem dX7_takeNext_22 : decode cX7_takeNext 22 = .ok (.return_, 1) := by decide +kernel
theorem dX7_goOnFrom_0 : decode cX7_goOnFrom 0 = .ok (.iconst 0, 1) := by decide +kernel
theorem dX7_goOnFrom_1 : decode cX7_goOnFrom 1 = .ok (.istore 4, 2) := by decide +kernel
theorem dX7_goOnFrom_3 : decode cX7_goOnFrom 3 = .ok (.iload 4, 2) := by decide +kernel
theorem dX7_goOnFrom_5 : decode cX7_goOnFrom 5 = .ok (.bipush 100, 2) := by decide +kernel
theorem dX7_goOnFrom_7 : decode cX7_goOnFrom 7 = .ok (.if_icmp .ge 39, 3) := by decide +kernel
theorem dX7_goOnFrom_10 : decode cX7_goOnFrom 10 = .ok (.aload_n 0, 1) := by decide +kernel
theorem dX7_goOnFrom_11 : decode cX7_goOnFrom 11 = .ok (.getfield 33, 3) := by decide +kernel
theorem dX7_goOnFrom_14 : decode cX7_goOnFrom 14 = .ok (.iload_n 2, 1) := by decide +kernel
theorem dX7_goOnFrom_15 : decode cX7_goOnFrom 15 = .ok (.bipush 100, 2) := by decide +kernel
theorem dX7_goOnFrom_17 : decode cX7_goOnFrom 17 = .ok (.imul, 1) := by decide +kernel
theorem dX7_goOnFrom_18 : decode cX7_goOnFrom 18 = .ok (.iload 4, 2) := by decide +kernel
theorem dX7_goOnFrom_20 : decode cX7_goOnFrom 20 = .ok (.iadd, 1) := by decide +kernel
theorem dX7_goOnFrom_21 : decode cX7_goOnFrom 21 = .ok (.iaload, 1) := by decide +kernel
theorem dX7_goOnFrom_22 : decode cX7_goOnFrom 22 = .ok (.istore 5, 2) := by decide +kernel
theorem dX7_goOnFrom_24 : decode cX7_goOnFrom 24 = .ok (.iload 5, 2) := by decide +kernel
theorem dX7_goOnFrom_26 : decode cX7_goOnFrom 26 = .ok (.iload_n 3, 1) := by decide +kernel
theorem dX7_goOnFrom_27 : decode cX7_goOnFrom 27 = .ok (.if_icmp .gt 13, 3) := by decide +kernel
theorem dX7_goOnFrom_30 : decode cX7_goOnFrom 30 = .ok (.aload_n 0, 1) := by decide +kernel
theorem dX7_goOnFrom_31 : decode cX7_goOnFrom 31 = .ok (.iload_n 1, 1) := by decide +kernel
theorem dX7_goOnFrom_32 : decode cX7_goOnFrom 32 = .ok (.iload_n 2, 1) := by decide +kernel
theorem dX7_goOnFrom_33 : decode cX7_goOnFrom 33 = .ok (.iload 4, 2) := by decide +kernel
theorem dX7_goOnFrom_35 : decode cX7_goOnFrom 35 = .ok (.iload 5, 2) := by decide +kernel
theorem dX7_goOnFrom_37 : decode cX7_goOnFrom 37 = .ok (.invokevirtual 84, 3) := by decide +kernel
theorem dX7_goOnFrom_40 : decode cX7_goOnFrom 40 = .ok (.iinc 4 1, 3) := by decide +kernel
theorem dX7_goOnFrom_43 : decode cX7_goOnFrom 43 = .ok (.goto (-40), 3) := by decide +kernel
theorem dX7_goOnFrom_46 : decode cX7_goOnFrom 46 = .ok (.return_, 1) := by decide +kernel
theorem dX7_goOnFromLegs_0 : decode cX7_goOnFromLegs 0 = .ok (.iconst 0, 1) := by decide +kernel
theorem dX7_goOnFromLegs_1 : decode cX7_goOnFromLegs 1 = .ok (.istore 5, 2) := by decide +kernel
theorem dX7_goOnFromLegs_3 : decode cX7_goOnFromLegs 3 = .ok (.iload 5, 2) := by decide +kernel
theorem dX7_goOnFromLegs_5 : decode cX7_goOnFromLegs 5 = .ok (.iconst 3, 1) := by decide +kernel
theorem dX7_goOnFromLegs_6 : decode cX7_goOnFromLegs 6 = .ok (.if_icmp .gt 77, 3) := by decide +kernel
theorem dX7_goOnFromLegs_9 : decode cX7_goOnFromLegs 9 = .ok (.aload_n 0, 1) := by decide +kernel
theorem dX7_goOnFromLegs_10 : decode cX7_goOnFromLegs 10 = .ok (.getfield 18, 3) := by decide +kernel
theorem dX7_goOnFromLegs_13 : decode cX7_goOnFromLegs 13 = .ok (.iload_n 1, 1) := by decide +kernel
theorem dX7_goOnFromLegs_14 : decode cX7_goOnFromLegs 14 = .ok (.iaload, 1) := by decide +kernel
theorem dX7_goOnFromLegs_15 : decode cX7_goOnFromLegs 15 = .ok (.aload_n 0, 1) := by decide +kernel
theorem dX7_goOnFromLegs_16 : decode cX7_goOnFromLegs 16 = .ok (.getfield 22, 3) := by decide +kernel
theorem dX7_goOnFromLegs_19 : decode cX7_goOnFromLegs 19 = .ok (.iload_n 1, 1) := by decide +kernel
theorem dX7_goOnFromLegs_20 : decode cX7_goOnFromLegs 20 = .ok (.iaload, 1) := by decide +kernel
theorem dX7_goOnFromLegs_21 : decode cX7_goOnFromLegs 21 = .ok (.iload 5, 2) := by decide +kernel
theorem dX7_goOnFromLegs_23 : decode cX7_goOnFromLegs 23 = .ok (.iload_n 3, 1) := by decide +kernel
theorem dX7_goOnFromLegs_24 : decode cX7_goOnFromLegs 24 = .ok (.invokestatic 52, 3) := by decide +kernel
theorem dX7_goOnFromLegs_27 : decode cX7_goOnFromLegs 27 = .ok (.istore 6, 2) := by decide +kernel
theorem dX7_goOnFromLegs_29 : decode cX7_goOnFromLegs 29 = .ok (.iload_n 2, 1) := by decide +kernel
theorem dX7_goOnFromLegs_30 : decode cX7_goOnFromLegs 30 = .ok (.iload 5, 2) := by decide +kernel
theorem dX7_goOnFromLegs_32 : decode cX7_goOnFromLegs 32 = .ok (.iadd, 1) := by decide +kernel
theorem dX7_goOnFromLegs_33 : decode cX7_goOnFromLegs 33 = .ok (.bipush 100, 2) := by decide +kernel
theorem dX7_goOnFromLegs_35 : decode cX7_goOnFromLegs 35 = .ok (.imul, 1) := by decide +kernel
theorem dX7_goOnFromLegs_36 : decode cX7_goOnFromLegs 36 = .ok (.iload 6, 2) := by decide +kernel
theorem dX7_goOnFromLegs_38 : decode cX7_goOnFromLegs 38 = .ok (.iadd, 1) := by decide +kernel
theorem dX7_goOnFromLegs_39 : decode cX7_goOnFromLegs 39 = .ok (.istore 7, 2) := by decide +kernel
theorem dX7_goOnFromLegs_41 : decode cX7_goOnFromLegs 41 = .ok (.iload 4, 2) := by decide +kernel
theorem dX7_goOnFromLegs_43 : decode cX7_goOnFromLegs 43 = .ok (.aload_n 0, 1) := by decide +kernel
theorem dX7_goOnFromLegs_44 : decode cX7_goOnFromLegs 44 = .ok (.getfield 25, 3) := by decide +kernel
theorem dX7_goOnFromLegs_47 : decode cX7_goOnFromLegs 47 = .ok (.iload_n 1, 1) := by decide +kernel
theorem dX7_goOnFromLegs_48 : decode cX7_goOnFromLegs 48 = .ok (.iaload, 1) := by decide +kernel
theorem dX7_goOnFromLegs_49 : decode cX7_goOnFromLegs 49 = .ok (.iload 5, 2) := by decide +kernel
theorem dX7_goOnFromLegs_51 : decode cX7_goOnFromLegs 51 = .ok (.iload_n 3, 1) := by decide +kernel
theorem dX7_goOnFromLegs_52 : decode cX7_goOnFromLegs 52 = .ok (.invokestatic 58, 3) := by decide +kernel
theorem dX7_goOnFromLegs_55 : decode cX7_goOnFromLegs 55 = .ok (.iadd, 1) := by decide +kernel
theorem dX7_goOnFromLegs_56 : decode cX7_goOnFromLegs 56 = .ok (.istore 8, 2) := by decide +kernel
theorem dX7_goOnFromLegs_58 : decode cX7_goOnFromLegs 58 = .ok (.aload_n 0, 1) := by decide +kernel
theorem dX7_goOnFromLegs_59 : decode cX7_goOnFromLegs 59 = .ok (.getfield 36, 3) := by decide +kernel
theorem dX7_goOnFromLegs_62 : decode cX7_goOnFromLegs 62 = .ok (.iload 7, 2) := by decide +kernel
theorem dX7_goOnFromLegs_64 : decode cX7_goOnFromLegs 64 = .ok (.aload_n 0, 1) := by decide +kernel
theorem dX7_goOnFromLegs_65 : decode cX7_goOnFromLegs 65 = .ok (.getfield 36, 3) := by decide +kernel
theorem dX7_goOnFromLegs_68 : decode cX7_goOnFromLegs 68 = .ok (.iload 7, 2) := by decide +kernel
theorem dX7_goOnFromLegs_70 : decode cX7_goOnFromLegs 70 = .ok (.iaload, 1) := by decide +kernel
theorem dX7_goOnFromLegs_71 : decode cX7_goOnFromLegs 71 = .ok (.iload 8, 2) := by decide +kernel
theorem dX7_goOnFromLegs_73 : decode cX7_goOnFromLegs 73 = .ok (.invokestatic 88, 3) := by decide +kernel
theorem dX7_goOnFromLegs_76 : decode cX7_goOnFromLegs 76 = .ok (.iastore, 1) := by decide +kernel
theorem dX7_goOnFromLegs_77 : decode cX7_goOnFromLegs 77 = .ok (.iinc 5 1, 3) := by decide +kernel
theorem dX7_goOnFromLegs_80 : decode cX7_goOnFromLegs 80 = .ok (.goto (-77), 3) := by decide +kernel
theorem dX7_goOnFromLegs_83 : decode cX7_goOnFromLegs 83 = .ok (.return_, 1) := by decide +kernel
theorem dX8_init_0 : decode cX8_init 0 = .ok (.aload_n 0, 1) := by decide +kernel
theorem dX8_init_1 : decode cX8_init 1 = .ok (.invokespecial 3, 3) := by decide +kernel
theorem dX8_init_4 : decode cX8_init 4 = .ok (.aload_n 0, 1) := by decide +kernel
theorem dX8_init_5 : decode cX8_init 5 = .ok (.iconst 0, 1) := by decide +kernel
theorem dX8_init_6 : decode cX8_init 6 = .ok (.putfield 9, 3) := by decide +kernel
theorem dX8_init_9 : decode cX8_init 9 = .ok (.aload_n 0, 1) := by decide +kernel
theorem dX8_init_10 : decode cX8_init 10 = .ok (.bipush 12, 2) := by decide +kernel
theorem dX8_init_12 : decode cX8_init 12 = .ok (.newarray .int, 2) := by decide +kernel
theorem dX8_init_14 : decode cX8_init 14 = .ok (.putfield 15, 3) := by decide +kernel
theorem dX8_init_17 : decode cX8_init 17 = .ok (.return_, 1) := by decide +kernel
theorem dX8_isFull_0 : decode cX8_isFull 0 = .ok (.aload_n 0, 1) := by decide +kernel
theorem dX8_isFull_1 : decode cX8_isFull 1 = .ok (.getfield 9, 3) := by decide +kernel
theorem dX8_isFull_4 : decode cX8_isFull 4 = .ok (.bipush 12, 2) := by decide +kernel
theorem dX8_isFull_6 : decode cX8_isFull 6 = .ok (.if_icmp .lt 7, 3) := by decide +kernel
theorem dX8_isFull_9 : decode cX8_isFull 9 = .ok (.iconst 1, 1) := by decide +kernel
theorem dX8_isFull_10 : decode cX8_isFull 10 = .ok (.goto 4, 3) := by decide +kernel
theorem dX8_isFull_13 : decode cX8_isFull 13 = .ok (.iconst 0, 1) := by decide +kernel
theorem dX8_isFull_14 : decode cX8_isFull 14 = .ok (.ireturn, 1) := by decide +kernel
theorem dX8_put_0 : decode cX8_put 0 = .ok (.aload_n 0, 1) := by decide +kernel
theorem dX8_put_1 : decode cX8_put 1 = .ok (.getfield 9, 3) := by decide +kernel
theorem dX8_put_4 : decode cX8_put 4 = .ok (.bipush 12, 2) := by decide +kernel
theorem dX8_put_6 : decode cX8_put 6 = .ok (.if_icmp .ge 23, 3) := by decide +kernel
theorem dX8_put_9 : decode cX8_put 9 = .ok (.aload_n 0, 1) := by decide +kernel
theorem dX8_put_10 : decode cX8_put 10 = .ok (.getfield 15, 3) := by decide +kernel
theorem dX8_put_13 : decode cX8_put 13 = .ok (.aload_n 0, 1) := by decide +kernel
theorem dX8_put_14 : decode cX8_put 14 = .ok (.getfield 9, 3) := by decide +kernel
theorem dX8_put_17 : decode cX8_put 17 = .ok (.iload_n 1, 1) := by decide +kernel
theorem dX8_put_18 : decode cX8_put 18 = .ok (.iastore, 1) := by decide +kernel
theorem dX8_put_19 : decode cX8_put 19 = .ok (.aload_n 0, 1) := by decide +kernel
theorem dX8_put_20 : decode cX8_put 20 = .ok (.dup, 1) := by decide +kernel
theorem dX8_put_21 : decode cX8_put 21 = .ok (.getfield 9, 3) := by decide +kernel
theorem dX8_put_24 : decode cX8_put 24 = .ok (.iconst 1, 1) := by decide +kernel
theorem dX8_put_25 : decode cX8_put 25 = .ok (.iadd, 1) := by decide +kernel
theorem dX8_put_26 : decode cX8_put 26 = .ok (.putfield 9, 3) := by decide +kernel
theorem dX8_put_29 : decode cX8_put 29 = .ok (.aload_n 0, 1) := by decide +kernel
theorem dX8_put_30 : decode cX8_put 30 = .ok (.getfield 9, 3) := by decide +kernel
theorem dX8_put_33 : decode cX8_put 33 = .ok (.ireturn, 1) := by decide +kernel
theorem dX8_forget_0 : decode cX8_forget 0 = .ok (.aload_n 0, 1) := by decide +kernel
theorem dX8_forget_1 : decode cX8_forget 1 = .ok (.getfield 9, 3) := by decide +kernel
theorem dX8_forget_4 : decode cX8_forget 4 = .ok (.istore_n 1, 1) := by decide +kernel
theorem dX8_forget_5 : decode cX8_forget 5 = .ok (.aload_n 0, 1) := by decide +kernel
theorem dX8_forget_6 : decode cX8_forget 6 = .ok (.iconst 0, 1) := by decide +kernel
theorem dX8_forget_7 : decode cX8_forget 7 = .ok (.putfield 9, 3) := by decide +kernel
theorem dX8_forget_10 : decode cX8_forget 10 = .ok (.iload_n 1, 1) := by decide +kernel
theorem dX8_forget_11 : decode cX8_forget 11 = .ok (.ireturn, 1) := by decide +kernel
theorem dX8_firstUnlike_0 : decode cX8_firstUnlike 0 = .ok (.iconst 0, 1) := by decide +kernel
theorem dX8_firstUnlike_1 : decode cX8_firstUnlike 1 = .ok (.istore_n 3, 1) := by decide +kernel
theorem dX8_firstUnlike_2 : decode cX8_firstUnlike 2 = .ok (.iload_n 3, 1) := by decide +kernel
theorem dX8_firstUnlike_3 : decode cX8_firstUnlike 3 = .ok (.aload_n 0, 1) := by decide +kernel
theorem dX8_firstUnlike_4 : decode cX8_firstUnlike 4 = .ok (.getfield 9, 3) := by decide +kernel
theorem dX8_firstUnlike_7 : decode cX8_firstUnlike 7 = .ok (.if_icmp .ge 34, 3) := by decide +kernel
theorem dX8_firstUnlike_10 : decode cX8_firstUnlike 10 = .ok (.iload_n 3, 1) := by decide +kernel
theorem dX8_firstUnlike_11 : decode cX8_firstUnlike 11 = .ok (.iload_n 2, 1) := by decide +kernel
theorem dX8_firstUnlike_12 : decode cX8_firstUnlike 12 = .ok (.if_icmp .ge 21, 3) := by decide +kernel
theorem dX8_firstUnlike_15 : decode cX8_firstUnlike 15 = .ok (.iload_n 3, 1) := by decide +kernel
theorem dX8_firstUnlike_16 : decode cX8_firstUnlike 16 = .ok (.aload_n 1, 1) := by decide +kernel
theorem dX8_firstUnlike_17 : decode cX8_firstUnlike 17 = .ok (.arraylength, 1) := by decide +kernel
theorem dX8_firstUnlike_18 : decode cX8_firstUnlike 18 = .ok (.if_icmp .ge 15, 3) := by decide +kernel
theorem dX8_firstUnlike_21 : decode cX8_firstUnlike 21 = .ok (.aload_n 0, 1) := by decide +kernel
theorem dX8_firstUnlike_22 : decode cX8_firstUnlike 22 = .ok (.getfield 15, 3) := by decide +kernel
theorem dX8_firstUnlike_25 : decode cX8_firstUnlike 25 = .ok (.iload_n 3, 1) := by decide +kernel
theorem dX8_firstUnlike_26 : decode cX8_firstUnlike 26 = .ok (.iaload, 1) := by decide +kernel
theorem dX8_firstUnlike_27 : decode cX8_firstUnlike 27 = .ok (.aload_n 1, 1) := by decide +kernel
theorem dX8_firstUnlike_28 : decode cX8_firstUnlike 28 = .ok (.iload_n 3, 1) := by decide +kernel
theorem dX8_firstUnlike_29 : decode cX8_firstUnlike 29 = .ok (.iaload, 1) := by decide +kernel
theorem dX8_firstUnlike_30 : decode cX8_firstUnlike 30 = .ok (.if_icmp .eq 5, 3) := by decide +kernel
theorem dX8_firstUnlike_33 : decode cX8_firstUnlike 33 = .ok (.iload_n 3, 1) := by decide +kernel
theorem dX8_firstUnlike_34 : decode cX8_firstUnlike 34 = .ok (.ireturn, 1) := by decide +kernel
theorem dX8_firstUnlike_35 : decode cX8_firstUnlike 35 = .ok (.iinc 3 1, 3) := by decide +kernel
theorem dX8_firstUnlike_38 : decode cX8_firstUnlike 38 = .ok (.goto (-36), 3) := by decide +kernel
theorem dX8_firstUnlike_41 : decode cX8_firstUnlike 41 = .ok (.bipush (-9), 2) := by decide +kernel
theorem dX8_firstUnlike_43 : decode cX8_firstUnlike 43 = .ok (.ireturn, 1) := by decide +kernel
theorem dX9_init_0 : decode cX9_init 0 = .ok (.aload_n 0, 1) := by decide +kernel
theorem dX9_init_1 : decode cX9_init 1 = .ok (.invokespecial 3, 3) := by decide +kernel
theorem dX9_init_4 : decode cX9_init 4 = .ok (.aload_n 0, 1) := by decide +kernel
theorem dX9_init_5 : decode cX9_init 5 = .ok (.iconst 0, 1) := by decide +kernel
theorem dX9_init_6 : decode cX9_init 6 = .ok (.putfield 9, 3) := by decide +kernel
theorem dX9_init_9 : decode cX9_init 9 = .ok (.aload_n 0, 1) := by decide +kernel
theorem dX9_init_10 : decode cX9_init 10 = .ok (.bipush 96, 2) := by decide +kernel
theorem dX9_init_12 : decode cX9_init 12 = .ok (.newarray .int, 2) := by decide +kernel
theorem dX9_init_14 : decode cX9_init 14 = .ok (.putfield 15, 3) := by decide +kernel
theorem dX9_init_17 : decode cX9_init 17 = .ok (.return_, 1) := by decide +kernel
theorem dX9_isFull_0 : decode cX9_isFull 0 = .ok (.aload_n 0, 1) := by decide +kernel
theorem dX9_isFull_1 : decode cX9_isFull 1 = .ok (.getfield 9, 3) := by decide +kernel
theorem dX9_isFull_4 : decode cX9_isFull 4 = .ok (.bipush 96, 2) := by decide +kernel
theorem dX9_isFull_6 : decode cX9_isFull 6 = .ok (.if_icmp .lt 7, 3) := by decide +kernel
theorem dX9_isFull_9 : decode cX9_isFull 9 = .ok (.iconst 1, 1) := by decide +kernel
theorem dX9_isFull_10 : decode cX9_isFull 10 = .ok (.goto 4, 3) := by decide +kernel
theorem dX9_isFull_13 : decode cX9_isFull 13 = .ok (.iconst 0, 1) := by decide +kernel
theorem dX9_isFull_14 : decode cX9_isFull 14 = .ok (.ireturn, 1) := by decide +kernel
theorem dX9_put_0 : decode cX9_put 0 = .ok (.aload_n 0, 1) := by decide +kernel
theorem dX9_put_1 : decode cX9_put 1 = .ok (.getfield 9, 3) := by decide +kernel
theorem dX9_put_4 : decode cX9_put 4 = .ok (.bipush 96, 2) := by decide +kernel
theorem dX9_put_6 : decode cX9_put 6 = .ok (.if_icmp .ge 23, 3) := by decide +kernel
theorem dX9_put_9 : decode cX9_put 9 = .ok (.aload_n 0, 1) := by decide +kernel
theorem dX9_put_10 : decode cX9_put 10 = .ok (.getfield 15, 3) := by decide +kernel
theorem dX9_put_13 : decode cX9_put 13 = .ok (.aload_n 0, 1) := by decide +kernel
theorem dX9_put_14 : decode cX9_put 14 = .ok (.getfield 9, 3) := by decide +kernel
theorem dX9_put_17 : decode cX9_put 17 = .ok (.iload_n 1, 1) := by decide +kernel
theorem dX9_put_18 : decode cX9_put 18 = .ok (.iastore, 1) := by decide +kernel
theorem dX9_put_19 : decode cX9_put 19 = .ok (.aload_n 0, 1) := by decide +kernel
theorem dX9_put_20 : decode cX9_put 20 = .ok (.dup, 1) := by decide +kernel
theorem dX9_put_21 : decode cX9_put 21 = .ok (.getfield 9, 3) := by decide +kernel
theorem dX9_put_24 : decode cX9_put 24 = .ok (.iconst 1, 1) := by decide +kernel
theorem dX9_put_25 : decode cX9_put 25 = .ok (.iadd, 1) := by decide +kernel
theorem dX9_put_26 : decode cX9_put 26 = .ok (.putfield 9, 3) := by decide +kernel
theorem dX9_put_29 : decode cX9_put 29 = .ok (.aload_n 0, 1) := by decide +kernel
theorem dX9_put_30 : decode cX9_put 30 = .ok (.getfield 9, 3) := by decide +kernel
theorem dX9_put_33 : decode cX9_put 33 = .ok (.ireturn, 1) := by decide +kernel
theorem dX9_forget_0 : decode cX9_forget 0 = .ok (.aload_n 0, 1) := by decide +kernel
theorem dX9_forget_1 : decode cX9_forget 1 = .ok (.iconst 0, 1) := by decide +kernel
theorem dX9_forget_2 : decode cX9_forget 2 = .ok (.putfield 9, 3) := by decide +kernel
theorem dX9_forget_5 : decode cX9_forget 5 = .ok (.return_, 1) := by decide +kernel
theorem dX9_faultIn_0 : decode cX9_faultIn 0 = .ok (.aload_n 0, 1) := by decide +kernel
theorem dX9_faultIn_1 : decode cX9_faultIn 1 = .ok (.invokevirtual 19, 3) := by decide +kernel
theorem dX9_faultIn_4 : decode cX9_faultIn 4 = .ok (.istore_n 2, 1) := by decide +kernel
theorem dX9_faultIn_5 : decode cX9_faultIn 5 = .ok (.iload_n 2, 1) := by decide +kernel
theorem dX9_faultIn_6 : decode cX9_faultIn 6 = .ok (.bipush (-9), 2) := by decide +kernel
theorem dX9_faultIn_8 : decode cX9_faultIn 8 = .ok (.if_icmp .eq 9, 3) := by decide +kernel
theorem dX9_faultIn_11 : decode cX9_faultIn 11 = .ok (.sipush (-1000), 3) := by decide +kernel
theorem dX9_faultIn_14 : decode cX9_faultIn 14 = .ok (.iload_n 2, 1) := by decide +kernel
theorem dX9_faultIn_15 : decode cX9_faultIn 15 = .ok (.isub, 1) := by decide +kernel
theorem dX9_faultIn_16 : decode cX9_faultIn 16 = .ok (.ireturn, 1) := by decide +kernel
theorem dX9_faultIn_17 : decode cX9_faultIn 17 = .ok (.aload_n 0, 1) := by decide +kernel
theorem dX9_faultIn_18 : decode cX9_faultIn 18 = .ok (.aload_n 1, 1) := by decide +kernel
theorem dX9_faultIn_19 : decode cX9_faultIn 19 = .ok (.invokevirtual 23, 3) := by decide +kernel
theorem dX9_faultIn_22 : decode cX9_faultIn 22 = .ok (.istore_n 2, 1) := by decide +kernel
theorem dX9_faultIn_23 : decode cX9_faultIn 23 = .ok (.iload_n 2, 1) := by decide +kernel
theorem dX9_faultIn_24 : decode cX9_faultIn 24 = .ok (.bipush (-9), 2) := by decide +kernel
theorem dX9_faultIn_26 : decode cX9_faultIn 26 = .ok (.if_icmp .ne 7, 3) := by decide +kernel
theorem dX9_faultIn_29 : decode cX9_faultIn 29 = .ok (.iconst 0, 1) := by decide +kernel
theorem dX9_faultIn_30 : decode cX9_faultIn 30 = .ok (.goto 8, 3) := by decide +kernel
theorem dX9_faultIn_33 : decode cX9_faultIn 33 = .ok (.sipush (-2000), 3) := by decide +kernel
theorem dX9_faultIn_36 : decode cX9_faultIn 36 = .ok (.iload_n 2, 1) := by decide +kernel
theorem dX9_faultIn_37 : decode cX9_faultIn 37 = .ok (.isub, 1) := by decide +kernel
theorem dX9_faultIn_38 : decode cX9_faultIn 38 = .ok (.ireturn, 1) := by decide +kernel
theorem dX9_placeOfBadLetter_0 : decode cX9_placeOfBadLetter 0 = .ok (.iconst 0, 1) := by decide +kernel
theorem dX9_placeOfBadLetter_1 : decode cX9_placeOfBadLetter 1 = .ok (.istore_n 1, 1) := by decide +kernel
theorem dX9_placeOfBadLetter_2 : decode cX9_placeOfBadLetter 2 = .ok (.iconst 0, 1) := by decide +kernel
theorem dX9_placeOfBadLetter_3 : decode cX9_placeOfBadLetter 3 = .ok (.istore_n 2, 1) := by decide +kernel
theorem dX9_placeOfBadLetter_4 : decode cX9_placeOfBadLetter 4 = .ok (.iload_n 2, 1) := by decide +kernel
theorem dX9_placeOfBadLetter_5 : decode cX9_placeOfBadLetter 5 = .ok (.aload_n 0, 1) := by decide +kernel
theorem dX9_placeOfBadLetter_6 : decode cX9_placeOfBadLetter 6 = .ok (.getfield 9, 3) := by decide +kernel
theorem dX9_placeOfBadLetter_9 : decode cX9_placeOfBadLetter 9 = .ok (.if_icmp .ge 63, 3) := by decide +kernel
theorem dX9_placeOfBadLetter_12 : decode cX9_placeOfBadLetter 12 = .ok (.aload_n 0, 1) := by decide +kernel
theorem dX9_placeOfBadLetter_13 : decode cX9_placeOfBadLetter 13 = .ok (.getfield 15, 3) := by decide +kernel
theorem dX9_placeOfBadLetter_16 : decode cX9_placeOfBadLetter 16 = .ok (.iload_n 2, 1) := by decide +kernel
theorem dX9_placeOfBadLetter_17 : decode cX9_placeOfBadLetter 17 = .ok (.iaload, 1) := by decide +kernel
theorem dX9_placeOfBadLetter_18 : decode cX9_placeOfBadLetter 18 = .ok (.istore_n 3, 1) := by decide +kernel
theorem dX9_placeOfBadLetter_19 : decode cX9_placeOfBadLetter 19 = .ok (.iload_n 2, 1) := by decide +kernel
theorem dX9_placeOfBadLetter_20 : decode cX9_placeOfBadLetter 20 = .ok (.iload_n 1, 1) := by decide +kernel
theorem dX9_placeOfBadLetter_21 : decode cX9_placeOfBadLetter 21 = .ok (.isub, 1) := by decide +kernel
theorem dX9_placeOfBadLetter_22 : decode cX9_placeOfBadLetter 22 = .ok (.istore 4, 2) := by decide +kernel
theorem dX9_placeOfBadLetter_24 : decode cX9_placeOfBadLetter 24 = .ok (.iload 4, 2) := by decide +kernel
theorem dX9_placeOfBadLetter_26 : decode cX9_placeOfBadLetter 26 = .ok (.ifCond .ne 13, 3) := by decide +kernel
theorem dX9_placeOfBadLetter_29 : decode cX9_placeOfBadLetter 29 = .ok (.iload_n 3, 1) := by decide +kernel
theorem dX9_placeOfBadLetter_30 : decode cX9_placeOfBadLetter 30 = .ok (.invokestatic 27, 3) := by decide +kernel
theorem dX9_placeOfBadLetter_33 : decode cX9_placeOfBadLetter 33 = .ok (.ifCond .ne 23, 3) := by decide +kernel
theorem dX9_placeOfBadLetter_36 : decode cX9_placeOfBadLetter 36 = .ok (.goto 18, 3) := by decide +kernel
theorem dX9_placeOfBadLetter_39 : decode cX9_placeOfBadLetter 39 = .ok (.aload_n 0, 1) := by decide +kernel
theorem dX9_placeOfBadLetter_40 : decode cX9_placeOfBadLetter 40 = .ok (.getfield 15, 3) := by decide +kernel
theorem dX9_placeOfBadLetter_43 : decode cX9_placeOfBadLetter 43 = .ok (.iload_n 1, 1) := by decide +kernel
theorem dX9_placeOfBadLetter_44 : decode cX9_placeOfBadLetter 44 = .ok (.iaload, 1) := by decide +kernel
theorem dX9_placeOfBadLetter_45 : decode cX9_placeOfBadLetter 45 = .ok (.iload 4, 2) := by decide +kernel
theorem dX9_placeOfBadLetter_47 : decode cX9_placeOfBadLetter 47 = .ok (.iload_n 3, 1) := by decide +kernel
theorem dX9_placeOfBadLetter_48 : decode cX9_placeOfBadLetter 48 = .ok (.invokestatic 31, 3) := by decide +kernel
theorem dX9_placeOfBadLetter_51 : decode cX9_placeOfBadLetter 51 = .ok (.ifCond .ne 5, 3) := by decide +kernel
theorem dX9_placeOfBadLetter_54 : decode cX9_placeOfBadLetter 54 = .ok (.iload_n 2, 1) := by decide +kernel
theorem dX9_placeOfBadLetter_55 : decode cX9_placeOfBadLetter 55 = .ok (.ireturn, 1) := by decide +kernel
theorem dX9_placeOfBadLetter_56 : decode cX9_placeOfBadLetter 56 = .ok (.iload_n 3, 1) := by decide +kernel
theorem dX9_placeOfBadLetter_57 : decode cX9_placeOfBadLetter 57 = .ok (.bipush 59, 2) := by decide +kernel
theorem dX9_placeOfBadLetter_59 : decode cX9_placeOfBadLetter 59 = .ok (.if_icmp .ne 7, 3) := by decide +kernel
theorem dX9_placeOfBadLetter_62 : decode cX9_placeOfBadLetter 62 = .ok (.iload_n 2, 1) := by decide +kernel
theorem dX9_placeOfBadLetter_63 : decode cX9_placeOfBadLetter 63 = .ok (.iconst 1, 1) := by decide +kernel
theorem dX9_placeOfBadLetter_64 : decode cX9_placeOfBadLetter 64 = .ok (.iadd, 1) := by decide +kernel
theorem dX9_placeOfBadLetter_65 : decode cX9_placeOfBadLetter 65 = .ok (.istore_n 1, 1) := by decide +kernel
theorem dX9_placeOfBadLetter_66 : decode cX9_placeOfBadLetter 66 = .ok (.iinc 2 1, 3) := by decide +kernel
theorem dX9_placeOfBadLetter_69 : decode cX9_placeOfBadLetter 69 = .ok (.goto (-65), 3) := by decide +kernel
theorem dX9_placeOfBadLetter_72 : decode cX9_placeOfBadLetter 72 = .ok (.iload_n 1, 1) := by decide +kernel
theorem dX9_placeOfBadLetter_73 : decode cX9_placeOfBadLetter 73 = .ok (.aload_n 0, 1) := by decide +kernel
theorem dX9_placeOfBadLetter_74 : decode cX9_placeOfBadLetter 74 = .ok (.getfield 9, 3) := by decide +kernel
theorem dX9_placeOfBadLetter_77 : decode cX9_placeOfBadLetter 77 = .ok (.if_icmp .lt 10, 3) := by decide +kernel
theorem dX9_placeOfBadLetter_80 : decode cX9_placeOfBadLetter 80 = .ok (.aload_n 0, 1) := by decide +kernel
theorem dX9_placeOfBadLetter_81 : decode cX9_placeOfBadLetter 81 = .ok (.getfield 9, 3) := by decide +kernel
theorem dX9_placeOfBadLetter_84 : decode cX9_placeOfBadLetter 84 = .ok (.ifCond .ne 10, 3) := by decide +kernel
theorem dX9_placeOfBadLetter_87 : decode cX9_placeOfBadLetter 87 = .ok (.aload_n 0, 1) := by decide +kernel
theorem dX9_placeOfBadLetter_88 : decode cX9_placeOfBadLetter 88 = .ok (.getfield 9, 3) := by decide +kernel
theorem dX9_placeOfBadLetter_91 : decode cX9_placeOfBadLetter 91 = .ok (.goto 5, 3) := by decide +kernel
theorem dX9_placeOfBadLetter_94 : decode cX9_placeOfBadLetter 94 = .ok (.bipush (-9), 2) := by decide +kernel
theorem dX9_placeOfBadLetter_96 : decode cX9_placeOfBadLetter 96 = .ok (.ireturn, 1) := by decide +kernel
theorem dX9_leastInside_0 : decode cX9_leastInside 0 = .ok (.iload_n 0, 1) := by decide +kernel
theorem dX9_leastInside_1 : decode cX9_leastInside 1 = .ok (.lookupswitch 57 #[(97, 53), (112, 55), (115, 51), (116, 51), (120, 55)], 51) := by decide +kernel
theorem dX9_leastInside_52 : decode cX9_leastInside 52 = .ok (.iconst 3, 1) := by decide +kernel
theorem dX9_leastInside_53 : decode cX9_leastInside 53 = .ok (.ireturn, 1) := by decide +kernel
theorem dX9_leastInside_54 : decode cX9_leastInside 54 = .ok (.iconst 5, 1) := by decide +kernel
theorem dX9_leastInside_55 : decode cX9_leastInside 55 = .ok (.ireturn, 1) := by decide +kernel
theorem dX9_leastInside_56 : decode cX9_leastInside 56 = .ok (.iconst 2, 1) := by decide +kernel
theorem dX9_leastInside_57 : decode cX9_leastInside 57 = .ok (.ireturn, 1) := by decide +kernel
theorem dX9_leastInside_58 : decode cX9_leastInside 58 = .ok (.iconst 0, 1) := by decide +kernel
theorem dX9_leastInside_59 : decode cX9_leastInside 59 = .ok (.ireturn, 1) := by decide +kernel
theorem dX9_mostInside_0 : decode cX9_mostInside 0 = .ok (.iload_n 0, 1) := by decide +kernel
theorem dX9_mostInside_1 : decode cX9_mostInside 1 = .ok (.bipush 112, 2) := by decide +kernel
theorem dX9_mostInside_3 : decode cX9_mostInside 3 = .ok (.if_icmp .ne 8, 3) := by decide +kernel
theorem dX9_mostInside_6 : decode cX9_mostInside 6 = .ok (.bipush 10, 2) := by decide +kernel
theorem dX9_mostInside_8 : decode cX9_mostInside 8 = .ok (.goto 7, 3) := by decide +kernel
theorem dX9_mostInside_11 : decode cX9_mostInside 11 = .ok (.iload_n 0, 1) := by decide +kernel
theorem dX9_mostInside_12 : decode cX9_mostInside 12 = .ok (.invokestatic 27, 3) := by decide +kernel
theorem dX9_mostInside_15 : decode cX9_mostInside 15 = .ok (.ireturn, 1) := by decide +kernel
theorem dX9_fits_0 : decode cX9_fits 0 = .ok (.iload_n 2, 1) := by decide +kernel
theorem dX9_fits_1 : decode cX9_fits 1 = .ok (.bipush 59, 2) := by decide +kernel
theorem dX9_fits_3 : decode cX9_fits 3 = .ok (.if_icmp .ne 17, 3) := by decide +kernel
theorem dX9_fits_6 : decode cX9_fits 6 = .ok (.iload_n 1, 1) := by decide +kernel
theorem dX9_fits_7 : decode cX9_fits 7 = .ok (.iload_n 0, 1) := by decide +kernel
theorem dX9_fits_8 : decode cX9_fits 8 = .ok (.invokestatic 27, 3) := by decide +kernel
theorem dX9_fits_11 : decode cX9_fits 11 = .ok (.if_icmp .le 7, 3) := by decide +kernel
theorem dX9_fits_14 : decode cX9_fits 14 = .ok (.iconst 1, 1) := by decide +kernel
theorem dX9_fits_15 : decode cX9_fits 15 = .ok (.goto 4, 3) := by decide +kernel
theorem dX9_fits_18 : decode cX9_fits 18 = .ok (.iconst 0, 1) := by decide +kernel
theorem dX9_fits_19 : decode cX9_fits 19 = .ok (.ireturn, 1) := by decide +kernel
theorem dX9_fits_20 : decode cX9_fits 20 = .ok (.iload_n 1, 1) := by decide +kernel
theorem dX9_fits_21 : decode cX9_fits 21 = .ok (.iload_n 0, 1) := by decide +kernel
theorem dX9_fits_22 : decode cX9_fits 22 = .ok (.invokestatic 35, 3) := by decide +kernel
theorem dX9_fits_25 : decode cX9_fits 25 = .ok (.if_icmp .le 5, 3) := by decide +kernel
theorem dX9_fits_28 : decode cX9_fits 28 = .ok (.iconst 0, 1) := by decide +kernel
theorem dX9_fits_29 : decode cX9_fits 29 = .ok (.ireturn, 1) := by decide +kernel
theorem dX9_fits_30 : decode cX9_fits 30 = .ok (.iload_n 0, 1) := by decide +kernel
theorem dX9_fits_31 : decode cX9_fits 31 = .ok (.bipush 115, 2) := by decide +kernel
theorem dX9_fits_33 : decode cX9_fits 33 = .ok (.if_icmp .ne 23, 3) := by decide +kernel
theorem dX9_fits_36 : decode cX9_fits 36 = .ok (.iload_n 1, 1) := by decide +kernel
theorem dX9_fits_37 : decode cX9_fits 37 = .ok (.iconst 1, 1) := by decide +kernel
theorem dX9_fits_38 : decode cX9_fits 38 = .ok (.if_icmp .ne 18, 3) := by decide +kernel
theorem dX9_fits_41 : decode cX9_fits 41 = .ok (.iload_n 2, 1) := by decide +kernel
theorem dX9_fits_42 : decode cX9_fits 42 = .ok (.invokestatic 38, 3) := by decide +kernel
theorem dX9_fits_45 : decode cX9_fits 45 = .ok (.bipush (-9), 2) := by decide +kernel
theorem dX9_fits_47 : decode cX9_fits 47 = .ok (.if_icmp .eq 7, 3) := by decide +kernel
theorem dX9_fits_50 : decode cX9_fits 50 = .ok (.iconst 1, 1) := by decide +kernel
theorem dX9_fits_51 : decode cX9_fits 51 = .ok (.goto 4, 3) := by decide +kernel
theorem dX9_fits_54 : decode cX9_fits 54 = .ok (.iconst 0, 1) := by decide +kernel
theorem dX9_fits_55 : decode cX9_fits 55 = .ok (.ireturn, 1) := by decide +kernel
theorem dX9_fits_56 : decode cX9_fits 56 = .ok (.iload_n 2, 1) := by decide +kernel
theorem dX9_fits_57 : decode cX9_fits 57 = .ok (.bipush 48, 2) := by decide +kernel
theorem dX9_fits_59 : decode cX9_fits 59 = .ok (.if_icmp .lt 13, 3) := by decide +kernel
theorem dX9_fits_62 : decode cX9_fits 62 = .ok (.iload_n 2, 1) := by decide +kernel
theorem dX9_fits_63 : decode cX9_fits 63 = .ok (.bipush 57, 2) := by decide +kernel
theorem dX9_fits_65 : decode cX9_fits 65 = .ok (.if_icmp .gt 7, 3) := by decide +kernel
theorem dX9_fits_68 : decode cX9_fits 68 = .ok (.iconst 1, 1) := by decide +kernel
theorem dX9_fits_69 : decode cX9_fits 69 = .ok (.goto 4, 3) := by decide +kernel
theorem dX9_fits_72 : decode cX9_fits 72 = .ok (.iconst 0, 1) := by decide +kernel
theorem dX9_fits_73 : decode cX9_fits 73 = .ok (.ireturn, 1) := by decide +kernel
theorem dX9_endOf_0 : decode cX9_endOf 0 = .ok (.iload_n 1, 1) := by decide +kernel
theorem dX9_endOf_1 : decode cX9_endOf 1 = .ok (.istore_n 2, 1) := by decide +kernel
theorem dX9_endOf_2 : decode cX9_endOf 2 = .ok (.iload_n 2, 1) := by decide +kernel
theorem dX9_endOf_3 : decode cX9_endOf 3 = .ok (.aload_n 0, 1) := by decide +kernel
theorem dX9_endOf_4 : decode cX9_endOf 4 = .ok (.getfield 9, 3) := by decide +kernel
theorem dX9_endOf_7 : decode cX9_endOf 7 = .ok (.if_icmp .ge 22, 3) := by decide +kernel
theorem dX9_endOf_10 : decode cX9_endOf 10 = .ok (.aload_n 0, 1) := by decide +kernel
theorem dX9_endOf_11 : decode cX9_endOf 11 = .ok (.getfield 15, 3) := by decide +kernel
theorem dX9_endOf_14 : decode cX9_endOf 14 = .ok (.iload_n 2, 1) := by decide +kernel
theorem dX9_endOf_15 : decode cX9_endOf 15 = .ok (.iaload, 1) := by decide +kernel
theorem dX9_endOf_16 : decode cX9_endOf 16 = .ok (.bipush 59, 2) := by decide +kernel
theorem dX9_endOf_18 : decode cX9_endOf 18 = .ok (.if_icmp .ne 5, 3) := by decide +kernel
theorem dX9_endOf_21 : decode cX9_endOf 21 = .ok (.iload_n 2, 1) := by decide +kernel
theorem dX9_endOf_22 : decode cX9_endOf 22 = .ok (.ireturn, 1) := by decide +kernel
theorem dX9_endOf_23 : decode cX9_endOf 23 = .ok (.iinc 2 1, 3) := by decide +kernel
theorem dX9_endOf_26 : decode cX9_endOf 26 = .ok (.goto (-24), 3) := by decide +kernel
theorem dX9_endOf_29 : decode cX9_endOf 29 = .ok (.aload_n 0, 1) := by decide +kernel
theorem dX9_endOf_30 : decode cX9_endOf 30 = .ok (.getfield 9, 3) := by decide +kernel
theorem dX9_endOf_33 : decode cX9_endOf 33 = .ok (.ireturn, 1) := by decide +kernel
theorem dX9_digit_0 : decode cX9_digit 0 = .ok (.iload_n 1, 1) := by decide +kernel
theorem dX9_digit_1 : decode cX9_digit 1 = .ok (.ifCond .lt 23, 3) := by decide +kernel
theorem dX9_digit_4 : decode cX9_digit 4 = .ok (.iload_n 1, 1) := by decide +kernel
theorem dX9_digit_5 : decode cX9_digit 5 = .ok (.aload_n 0, 1) := by decide +kernel
theorem dX9_digit_6 : decode cX9_digit 6 = .ok (.getfield 9, 3) := by decide +kernel
theorem dX9_digit_9 : decode cX9_digit 9 = .ok (.if_icmp .ge 15, 3) := by decide +kernel
theorem dX9_digit_12 : decode cX9_digit 12 = .ok (.aload_n 0, 1) := by decide +kernel
theorem dX9_digit_13 : decode cX9_digit 13 = .ok (.getfield 15, 3) := by decide +kernel
theorem dX9_digit_16 : decode cX9_digit 16 = .ok (.iload_n 1, 1) := by decide +kernel
theorem dX9_digit_17 : decode cX9_digit 17 = .ok (.iaload, 1) := by decide +kernel
theorem dX9_digit_18 : decode cX9_digit 18 = .ok (.bipush 48, 2) := by decide +kernel
theorem dX9_digit_20 : decode cX9_digit 20 = .ok (.isub, 1) := by decide +kernel
theorem dX9_digit_21 : decode cX9_digit 21 = .ok (.goto 4, 3) := by decide +kernel
theorem dX9_digit_24 : decode cX9_digit 24 = .ok (.iconst 0, 1) := by decide +kernel
theorem dX9_digit_25 : decode cX9_digit 25 = .ok (.ireturn, 1) := by decide +kernel
theorem dX9_letterAt_0 : decode cX9_letterAt 0 = .ok (.iload_n 1, 1) := by decide +kernel
theorem dX9_letterAt_1 : decode cX9_letterAt 1 = .ok (.ifCond .lt 20, 3) := by decide +kernel
theorem dX9_letterAt_4 : decode cX9_letterAt 4 = .ok (.iload_n 1, 1) := by decide +kernel
theorem dX9_letterAt_5 : decode cX9_letterAt 5 = .ok (.aload_n 0, 1) := by decide +kernel
theorem dX9_letterAt_6 : decode cX9_letterAt 6 = .ok (.getfield 9, 3) := by decide +kernel
theorem dX9_letterAt_9 : decode cX9_letterAt 9 = .ok (.if_icmp .ge 12, 3) := by decide +kernel
theorem dX9_letterAt_12 : decode cX9_letterAt 12 = .ok (.aload_n 0, 1) := by decide +kernel
theorem dX9_letterAt_13 : decode cX9_letterAt 13 = .ok (.getfield 15, 3) := by decide +kernel
theorem dX9_letterAt_16 : decode cX9_letterAt 16 = .ok (.iload_n 1, 1) := by decide +kernel
theorem dX9_letterAt_17 : decode cX9_letterAt 17 = .ok (.iaload, 1) := by decide +kernel
theorem dX9_letterAt_18 : decode cX9_letterAt 18 = .ok (.goto 4, 3) := by decide +kernel
theorem dX9_letterAt_21 : decode cX9_letterAt 21 = .ok (.iconst 0, 1) := by decide +kernel
theorem dX9_letterAt_22 : decode cX9_letterAt 22 = .ok (.ireturn, 1) := by decide +kernel
theorem dX9_placeOfBadStatement_0 : decode cX9_placeOfBadStatement 0 = .ok (.aload_n 1, 1) := by decide +kernel
theorem dX9_placeOfBadStatement_1 : decode cX9_placeOfBadStatement 1 = .ok (.getfield 43, 3) := by decide +kernel
theorem dX9_placeOfBadStatement_4 : decode cX9_placeOfBadStatement 4 = .ok (.getfield 49, 3) := by decide +kernel
theorem dX9_placeOfBadStatement_7 : decode cX9_placeOfBadStatement 7 = .ok (.istore_n 2, 1) := by decide +kernel
theorem dX9_placeOfBadStatement_8 : decode cX9_placeOfBadStatement 8 = .ok (.aload_n 1, 1) := by decide +kernel
theorem dX9_placeOfBadStatement_9 : decode cX9_placeOfBadStatement 9 = .ok (.getfield 52, 3) := by decide +kernel
theorem dX9_placeOfBadStatement_12 : decode cX9_placeOfBadStatement 12 = .ok (.istore_n 3, 1) := by decide +kernel
theorem dX9_placeOfBadStatement_13 : decode cX9_placeOfBadStatement 13 = .ok (.iconst 0, 1) := by decide +kernel
theorem dX9_placeOfBadStatement_14 : decode cX9_placeOfBadStatement 14 = .ok (.istore 4, 2) := by decide +kernel
theorem dX9_placeOfBadStatement_16 : decode cX9_placeOfBadStatement 16 = .ok (.iconst 0, 1) := by decide +kernel
theorem dX9_placeOfBadStatement_17 : decode cX9_placeOfBadStatement 17 = .ok (.istore 5, 2) := by decide +kernel
theorem dX9_placeOfBadStatement_19 : decode cX9_placeOfBadStatement 19 = .ok (.iload 5, 2) := by decide +kernel
theorem dX9_placeOfBadStatement_21 : decode cX9_placeOfBadStatement 21 = .ok (.bipush 96, 2) := by decide +kernel
theorem dX9_placeOfBadStatement_23 : decode cX9_placeOfBadStatement 23 = .ok (.if_icmp .ge 79, 3) := by decide +kernel
theorem dX9_placeOfBadStatement_26 : decode cX9_placeOfBadStatement 26 = .ok (.iload 4, 2) := by decide +kernel
theorem dX9_placeOfBadStatement_28 : decode cX9_placeOfBadStatement 28 = .ok (.aload_n 0, 1) := by decide +kernel
theorem dX9_placeOfBadStatement_29 : decode cX9_placeOfBadStatement 29 = .ok (.getfield 9, 3) := by decide +kernel
theorem dX9_placeOfBadStatement_32 : decode cX9_placeOfBadStatement 32 = .ok (.if_icmp .ge 70, 3) := by decide +kernel
theorem dX9_placeOfBadStatement_35 : decode cX9_placeOfBadStatement 35 = .ok (.aload_n 0, 1) := by decide +kernel
theorem dX9_placeOfBadStatement_36 : decode cX9_placeOfBadStatement 36 = .ok (.iload 4, 2) := by decide +kernel
theorem dX9_placeOfBadStatement_38 : decode cX9_placeOfBadStatement 38 = .ok (.invokevirtual 53, 3) := by decide +kernel
theorem dX9_placeOfBadStatement_41 : decode cX9_placeOfBadStatement 41 = .ok (.istore 6, 2) := by decide +kernel
theorem dX9_placeOfBadStatement_43 : decode cX9_placeOfBadStatement 43 = .ok (.aload_n 0, 1) := by decide +kernel
theorem dX9_placeOfBadStatement_44 : decode cX9_placeOfBadStatement 44 = .ok (.iload 4, 2) := by decide +kernel
theorem dX9_placeOfBadStatement_46 : decode cX9_placeOfBadStatement 46 = .ok (.iload 6, 2) := by decide +kernel
theorem dX9_placeOfBadStatement_48 : decode cX9_placeOfBadStatement 48 = .ok (.iload_n 2, 1) := by decide +kernel
theorem dX9_placeOfBadStatement_49 : decode cX9_placeOfBadStatement 49 = .ok (.iload_n 3, 1) := by decide +kernel
theorem dX9_placeOfBadStatement_50 : decode cX9_placeOfBadStatement 50 = .ok (.invokevirtual 56, 3) := by decide +kernel
theorem dX9_placeOfBadStatement_53 : decode cX9_placeOfBadStatement 53 = .ok (.ifCond .ne 6, 3) := by decide +kernel
theorem dX9_placeOfBadStatement_56 : decode cX9_placeOfBadStatement 56 = .ok (.iload 4, 2) := by decide +kernel
theorem dX9_placeOfBadStatement_58 : decode cX9_placeOfBadStatement 58 = .ok (.ireturn, 1) := by decide +kernel
theorem dX9_placeOfBadStatement_59 : decode cX9_placeOfBadStatement 59 = .ok (.aload_n 0, 1) := by decide +kernel
theorem dX9_placeOfBadStatement_60 : decode cX9_placeOfBadStatement 60 = .ok (.iload 4, 2) := by decide +kernel
theorem dX9_placeOfBadStatement_62 : decode cX9_placeOfBadStatement 62 = .ok (.invokevirtual 60, 3) := by decide +kernel
theorem dX9_placeOfBadStatement_65 : decode cX9_placeOfBadStatement 65 = .ok (.bipush 115, 2) := by decide +kernel
theorem dX9_placeOfBadStatement_67 : decode cX9_placeOfBadStatement 67 = .ok (.if_icmp .ne 9, 3) := by decide +kernel
theorem dX9_placeOfBadStatement_70 : decode cX9_placeOfBadStatement 70 = .ok (.iinc 2 1, 3) := by decide +kernel
theorem dX9_placeOfBadStatement_73 : decode cX9_placeOfBadStatement 73 = .ok (.goto 17, 3) := by decide +kernel
theorem dX9_placeOfBadStatement_76 : decode cX9_placeOfBadStatement 76 = .ok (.aload_n 0, 1) := by decide +kernel
theorem dX9_placeOfBadStatement_77 : decode cX9_placeOfBadStatement 77 = .ok (.iload 4, 2) := by decide +kernel
theorem dX9_placeOfBadStatement_79 : decode cX9_placeOfBadStatement 79 = .ok (.invokevirtual 60, 3) := by decide +kernel
theorem dX9_placeOfBadStatement_82 : decode cX9_placeOfBadStatement 82 = .ok (.bipush 97, 2) := by decide +kernel
theorem dX9_placeOfBadStatement_84 : decode cX9_placeOfBadStatement 84 = .ok (.if_icmp .ne 6, 3) := by decide +kernel
theorem dX9_placeOfBadStatement_87 : decode cX9_placeOfBadStatement 87 = .ok (.iinc 3 1, 3) := by decide +kernel
theorem dX9_placeOfBadStatement_90 : decode cX9_placeOfBadStatement 90 = .ok (.iload 6, 2) := by decide +kernel
theorem dX9_placeOfBadStatement_92 : decode cX9_placeOfBadStatement 92 = .ok (.iconst 1, 1) := by decide +kernel
theorem dX9_placeOfBadStatement_93 : decode cX9_placeOfBadStatement 93 = .ok (.iadd, 1) := by decide +kernel
theorem dX9_placeOfBadStatement_94 : decode cX9_placeOfBadStatement 94 = .ok (.istore 4, 2) := by decide +kernel
theorem dX9_placeOfBadStatement_96 : decode cX9_placeOfBadStatement 96 = .ok (.iinc 5 1, 3) := by decide +kernel
theorem dX9_placeOfBadStatement_99 : decode cX9_placeOfBadStatement 99 = .ok (.goto (-80), 3) := by decide +kernel
theorem dX9_placeOfBadStatement_102 : decode cX9_placeOfBadStatement 102 = .ok (.bipush (-9), 2) := by decide +kernel
theorem dX9_placeOfBadStatement_104 : decode cX9_placeOfBadStatement 104 = .ok (.ireturn, 1) := by decide +kernel
theorem dX9_isAsItMustBe_0 : decode cX9_isAsItMustBe 0 = .ok (.aload_n 0, 1) := by decide +kernel
theorem dX9_isAsItMustBe_1 : decode cX9_isAsItMustBe 1 = .ok (.iload_n 1, 1) := by decide +kernel
theorem dX9_isAsItMustBe_2 : decode cX9_isAsItMustBe 2 = .ok (.iconst 1, 1) := by decide +kernel
theorem dX9_isAsItMustBe_3 : decode cX9_isAsItMustBe 3 = .ok (.iadd, 1) := by decide +kernel
theorem dX9_isAsItMustBe_4 : decode cX9_isAsItMustBe 4 = .ok (.invokevirtual 63, 3) := by decide +kernel
theorem dX9_isAsItMustBe_7 : decode cX9_isAsItMustBe 7 = .ok (.istore 5, 2) := by decide +kernel
theorem dX9_isAsItMustBe_9 : decode cX9_isAsItMustBe 9 = .ok (.aload_n 0, 1) := by decide +kernel
theorem dX9_isAsItMustBe_10 : decode cX9_isAsItMustBe 10 = .ok (.iload_n 1, 1) := by decide +kernel
theorem dX9_isAsItMustBe_11 : decode cX9_isAsItMustBe 11 = .ok (.iconst 2, 1) := by decide +kernel
theorem dX9_isAsItMustBe_12 : decode cX9_isAsItMustBe 12 = .ok (.iadd, 1) := by decide +kernel
theorem dX9_isAsItMustBe_13 : decode cX9_isAsItMustBe 13 = .ok (.invokevirtual 63, 3) := by decide +kernel
theorem dX9_isAsItMustBe_16 : decode cX9_isAsItMustBe 16 = .ok (.istore 6, 2) := by decide +kernel
theorem dX9_isAsItMustBe_18 : decode cX9_isAsItMustBe 18 = .ok (.aload_n 0, 1) := by decide +kernel
theorem dX9_isAsItMustBe_19 : decode cX9_isAsItMustBe 19 = .ok (.iload_n 1, 1) := by decide +kernel
theorem dX9_isAsItMustBe_20 : decode cX9_isAsItMustBe 20 = .ok (.invokevirtual 60, 3) := by decide +kernel
theorem dX9_isAsItMustBe_23 : decode cX9_isAsItMustBe 23 = .ok (.lookupswitch 130 #[(97, 64), (112, 106), (115, 41), (116, 76)], 41) := by decide +kernel
theorem dX9_isAsItMustBe_64 : decode cX9_isAsItMustBe 64 = .ok (.aload_n 0, 1) := by decide +kernel
theorem dX9_isAsItMustBe_65 : decode cX9_isAsItMustBe 65 = .ok (.iload_n 1, 1) := by decide +kernel
theorem dX9_isAsItMustBe_66 : decode cX9_isAsItMustBe 66 = .ok (.iconst 3, 1) := by decide +kernel
theorem dX9_isAsItMustBe_67 : decode cX9_isAsItMustBe 67 = .ok (.iadd, 1) := by decide +kernel
theorem dX9_isAsItMustBe_68 : decode cX9_isAsItMustBe 68 = .ok (.invokevirtual 63, 3) := by decide +kernel
theorem dX9_isAsItMustBe_71 : decode cX9_isAsItMustBe 71 = .ok (.iconst 1, 1) := by decide +kernel
theorem dX9_isAsItMustBe_72 : decode cX9_isAsItMustBe 72 = .ok (.if_icmp .lt 13, 3) := by decide +kernel
theorem dX9_isAsItMustBe_75 : decode cX9_isAsItMustBe 75 = .ok (.iload_n 3, 1) := by decide +kernel
theorem dX9_isAsItMustBe_76 : decode cX9_isAsItMustBe 76 = .ok (.bipush 10, 2) := by decide +kernel
theorem dX9_isAsItMustBe_78 : decode cX9_isAsItMustBe 78 = .ok (.if_icmp .ge 7, 3) := by decide +kernel
theorem dX9_isAsItMustBe_81 : decode cX9_isAsItMustBe 81 = .ok (.iconst 1, 1) := by decide +kernel
theorem dX9_isAsItMustBe_82 : decode cX9_isAsItMustBe 82 = .ok (.goto 4, 3) := by decide +kernel
theorem dX9_isAsItMustBe_85 : decode cX9_isAsItMustBe 85 = .ok (.iconst 0, 1) := by decide +kernel
theorem dX9_isAsItMustBe_86 : decode cX9_isAsItMustBe 86 = .ok (.ireturn, 1) := by decide +kernel
theorem dX9_isAsItMustBe_87 : decode cX9_isAsItMustBe 87 = .ok (.iload 4, 2) := by decide +kernel
theorem dX9_isAsItMustBe_89 : decode cX9_isAsItMustBe 89 = .ok (.iconst 5, 1) := by decide +kernel
theorem dX9_isAsItMustBe_90 : decode cX9_isAsItMustBe 90 = .ok (.if_icmp .ge 7, 3) := by decide +kernel
theorem dX9_isAsItMustBe_93 : decode cX9_isAsItMustBe 93 = .ok (.iconst 1, 1) := by decide +kernel
theorem dX9_isAsItMustBe_94 : decode cX9_isAsItMustBe 94 = .ok (.goto 4, 3) := by decide +kernel
theorem dX9_isAsItMustBe_97 : decode cX9_isAsItMustBe 97 = .ok (.iconst 0, 1) := by decide +kernel
theorem dX9_isAsItMustBe_98 : decode cX9_isAsItMustBe 98 = .ok (.ireturn, 1) := by decide +kernel
theorem dX9_isAsItMustBe_99 : decode cX9_isAsItMustBe 99 = .ok (.iload 5, 2) := by decide +kernel
theorem dX9_isAsItMustBe_101 : decode cX9_isAsItMustBe 101 = .ok (.iload 4, 2) := by decide +kernel
theorem dX9_isAsItMustBe_103 : decode cX9_isAsItMustBe 103 = .ok (.if_icmp .ge 24, 3) := by decide +kernel
theorem dX9_isAsItMustBe_106 : decode cX9_isAsItMustBe 106 = .ok (.iload 6, 2) := by decide +kernel
theorem dX9_isAsItMustBe_108 : decode cX9_isAsItMustBe 108 = .ok (.iload_n 3, 1) := by decide +kernel
theorem dX9_isAsItMustBe_109 : decode cX9_isAsItMustBe 109 = .ok (.if_icmp .ge 18, 3) := by decide +kernel
theorem dX9_isAsItMustBe_112 : decode cX9_isAsItMustBe 112 = .ok (.aload_n 0, 1) := by decide +kernel
theorem dX9_isAsItMustBe_113 : decode cX9_isAsItMustBe 113 = .ok (.iload_n 1, 1) := by decide +kernel
theorem dX9_isAsItMustBe_114 : decode cX9_isAsItMustBe 114 = .ok (.iconst 3, 1) := by decide +kernel
theorem dX9_isAsItMustBe_115 : decode cX9_isAsItMustBe 115 = .ok (.iadd, 1) := by decide +kernel
theorem dX9_isAsItMustBe_116 : decode cX9_isAsItMustBe 116 = .ok (.invokevirtual 63, 3) := by decide +kernel
theorem dX9_isAsItMustBe_119 : decode cX9_isAsItMustBe 119 = .ok (.iconst 3, 1) := by decide +kernel
theorem dX9_isAsItMustBe_120 : decode cX9_isAsItMustBe 120 = .ok (.if_icmp .gt 7, 3) := by decide +kernel
theorem dX9_isAsItMustBe_123 : decode cX9_isAsItMustBe 123 = .ok (.iconst 1, 1) := by decide +kernel
theorem dX9_isAsItMustBe_124 : decode cX9_isAsItMustBe 124 = .ok (.goto 4, 3) := by decide +kernel
theorem dX9_isAsItMustBe_127 : decode cX9_isAsItMustBe 127 = .ok (.iconst 0, 1) := by decide +kernel
theorem dX9_isAsItMustBe_128 : decode cX9_isAsItMustBe 128 = .ok (.ireturn, 1) := by decide +kernel
theorem dX9_isAsItMustBe_129 : decode cX9_isAsItMustBe 129 = .ok (.iload 5, 2) := by decide +kernel
theorem dX9_isAsItMustBe_131 : decode cX9_isAsItMustBe 131 = .ok (.iload 4, 2) := by decide +kernel
theorem dX9_isAsItMustBe_133 : decode cX9_isAsItMustBe 133 = .ok (.if_icmp .ge 18, 3) := by decide +kernel
theorem dX9_isAsItMustBe_136 : decode cX9_isAsItMustBe 136 = .ok (.aload_n 0, 1) := by decide +kernel
theorem dX9_isAsItMustBe_137 : decode cX9_isAsItMustBe 137 = .ok (.iload_n 1, 1) := by decide +kernel
theorem dX9_isAsItMustBe_138 : decode cX9_isAsItMustBe 138 = .ok (.iconst 2, 1) := by decide +kernel
theorem dX9_isAsItMustBe_139 : decode cX9_isAsItMustBe 139 = .ok (.iadd, 1) := by decide +kernel
theorem dX9_isAsItMustBe_140 : decode cX9_isAsItMustBe 140 = .ok (.iload_n 2, 1) := by decide +kernel
theorem dX9_isAsItMustBe_141 : decode cX9_isAsItMustBe 141 = .ok (.invokevirtual 66, 3) := by decide +kernel
theorem dX9_isAsItMustBe_144 : decode cX9_isAsItMustBe 144 = .ok (.ifCond .eq 7, 3) := by decide +kernel
theorem dX9_isAsItMustBe_147 : decode cX9_isAsItMustBe 147 = .ok (.iconst 1, 1) := by decide +kernel
theorem dX9_isAsItMustBe_148 : decode cX9_isAsItMustBe 148 = .ok (.goto 4, 3) := by decide +kernel
theorem dX9_isAsItMustBe_151 : decode cX9_isAsItMustBe 151 = .ok (.iconst 0, 1) := by decide +kernel
theorem dX9_isAsItMustBe_152 : decode cX9_isAsItMustBe 152 = .ok (.ireturn, 1) := by decide +kernel
theorem dX9_isAsItMustBe_153 : decode cX9_isAsItMustBe 153 = .ok (.iload 5, 2) := by decide +kernel
theorem dX9_isAsItMustBe_155 : decode cX9_isAsItMustBe 155 = .ok (.iload_n 3, 1) := by decide +kernel
theorem dX9_isAsItMustBe_156 : decode cX9_isAsItMustBe 156 = .ok (.if_icmp .ge 20, 3) := by decide +kernel
theorem dX9_isAsItMustBe_159 : decode cX9_isAsItMustBe 159 = .ok (.iload 6, 2) := by decide +kernel
theorem dX9_isAsItMustBe_161 : decode cX9_isAsItMustBe 161 = .ok (.iload_n 3, 1) := by decide +kernel
theorem dX9_isAsItMustBe_162 : decode cX9_isAsItMustBe 162 = .ok (.if_icmp .ge 14, 3) := by decide +kernel
theorem dX9_isAsItMustBe_165 : decode cX9_isAsItMustBe 165 = .ok (.iload 5, 2) := by decide +kernel
theorem dX9_isAsItMustBe_167 : decode cX9_isAsItMustBe 167 = .ok (.iload 6, 2) := by decide +kernel
theorem dX9_isAsItMustBe_169 : decode cX9_isAsItMustBe 169 = .ok (.if_icmp .eq 7, 3) := by decide +kernel
theorem dX9_isAsItMustBe_172 : decode cX9_isAsItMustBe 172 = .ok (.iconst 1, 1) := by decide +kernel
theorem dX9_isAsItMustBe_173 : decode cX9_isAsItMustBe 173 = .ok (.goto 4, 3) := by decide +kernel
theorem dX9_isAsItMustBe_176 : decode cX9_isAsItMustBe 176 = .ok (.iconst 0, 1) := by decide +kernel
theorem dX9_isAsItMustBe_177 : decode cX9_isAsItMustBe 177 = .ok (.ireturn, 1) := by decide +kernel
theorem dX9_areTries_0 : decode cX9_areTries 0 = .ok (.iload_n 1, 1) := by decide +kernel
theorem dX9_areTries_1 : decode cX9_areTries 1 = .ok (.istore_n 3, 1) := by decide +kernel
theorem dX9_areTries_2 : decode cX9_areTries 2 = .ok (.iload_n 3, 1) := by decide +kernel
theorem dX9_areTries_3 : decode cX9_areTries 3 = .ok (.iload_n 2, 1) := by decide +kernel
theorem dX9_areTries_4 : decode cX9_areTries 4 = .ok (.if_icmp .ge 20, 3) := by decide +kernel
theorem dX9_areTries_7 : decode cX9_areTries 7 = .ok (.aload_n 0, 1) := by decide +kernel
theorem dX9_areTries_8 : decode cX9_areTries 8 = .ok (.iload_n 3, 1) := by decide +kernel
theorem dX9_areTries_9 : decode cX9_areTries 9 = .ok (.invokevirtual 63, 3) := by decide +kernel
theorem dX9_areTries_12 : decode cX9_areTries 12 = .ok (.iconst 3, 1) := by decide +kernel
theorem dX9_areTries_13 : decode cX9_areTries 13 = .ok (.if_icmp .le 5, 3) := by decide +kernel
theorem dX9_areTries_16 : decode cX9_areTries 16 = .ok (.iconst 0, 1) := by decide +kernel
theorem dX9_areTries_17 : decode cX9_areTries 17 = .ok (.ireturn, 1) := by decide +kernel
theorem dX9_areTries_18 : decode cX9_areTries 18 = .ok (.iinc 3 1, 3) := by decide +kernel
theorem dX9_areTries_21 : decode cX9_areTries 21 = .ok (.goto (-19), 3) := by decide +kernel
theorem dX9_areTries_24 : decode cX9_areTries 24 = .ok (.iconst 1, 1) := by decide +kernel
theorem dX9_areTries_25 : decode cX9_areTries 25 = .ok (.ireturn, 1) := by decide +kernel
theorem dX9_tellTo_0 : decode cX9_tellTo 0 = .ok (.iconst 0, 1) := by decide +kernel
theorem dX9_tellTo_1 : decode cX9_tellTo 1 = .ok (.istore_n 2, 1) := by decide +kernel
theorem dX9_tellTo_2 : decode cX9_tellTo 2 = .ok (.iconst 0, 1) := by decide +kernel
theorem dX9_tellTo_3 : decode cX9_tellTo 3 = .ok (.istore_n 3, 1) := by decide +kernel
theorem dX9_tellTo_4 : decode cX9_tellTo 4 = .ok (.iconst 0, 1) := by decide +kernel
theorem dX9_tellTo_5 : decode cX9_tellTo 5 = .ok (.istore 4, 2) := by decide +kernel
theorem dX9_tellTo_7 : decode cX9_tellTo 7 = .ok (.iload 4, 2) := by decide +kernel
theorem dX9_tellTo_9 : decode cX9_tellTo 9 = .ok (.bipush 96, 2) := by decide +kernel
theorem dX9_tellTo_11 : decode cX9_tellTo 11 = .ok (.if_icmp .ge 40, 3) := by decide +kernel
theorem dX9_tellTo_14 : decode cX9_tellTo 14 = .ok (.iload_n 3, 1) := by decide +kernel
theorem dX9_tellTo_15 : decode cX9_tellTo 15 = .ok (.aload_n 0, 1) := by decide +kernel
theorem dX9_tellTo_16 : decode cX9_tellTo 16 = .ok (.getfield 9, 3) := by decide +kernel
theorem dX9_tellTo_19 : decode cX9_tellTo 19 = .ok (.if_icmp .ge 32, 3) := by decide +kernel
theorem dX9_tellTo_22 : decode cX9_tellTo 22 = .ok (.aload_n 0, 1) := by decide +kernel
theorem dX9_tellTo_23 : decode cX9_tellTo 23 = .ok (.iload_n 3, 1) := by decide +kernel
theorem dX9_tellTo_24 : decode cX9_tellTo 24 = .ok (.invokevirtual 53, 3) := by decide +kernel
theorem dX9_tellTo_27 : decode cX9_tellTo 27 = .ok (.istore 5, 2) := by decide +kernel
theorem dX9_tellTo_29 : decode cX9_tellTo 29 = .ok (.aload_n 0, 1) := by decide +kernel
theorem dX9_tellTo_30 : decode cX9_tellTo 30 = .ok (.aload_n 1, 1) := by decide +kernel
theorem dX9_tellTo_31 : decode cX9_tellTo 31 = .ok (.iload_n 3, 1) := by decide +kernel
theorem dX9_tellTo_32 : decode cX9_tellTo 32 = .ok (.iload 5, 2) := by decide +kernel
theorem dX9_tellTo_34 : decode cX9_tellTo 34 = .ok (.invokevirtual 70, 3) := by decide +kernel
theorem dX9_tellTo_37 : decode cX9_tellTo 37 = .ok (.iinc 2 1, 3) := by decide +kernel
theorem dX9_tellTo_40 : decode cX9_tellTo 40 = .ok (.iload 5, 2) := by decide +kernel
theorem dX9_tellTo_42 : decode cX9_tellTo 42 = .ok (.iconst 1, 1) := by decide +kernel
theorem dX9_tellTo_43 : decode cX9_tellTo 43 = .ok (.iadd, 1) := by decide +kernel
theorem dX9_tellTo_44 : decode cX9_tellTo 44 = .ok (.istore_n 3, 1) := by decide +kernel
theorem dX9_tellTo_45 : decode cX9_tellTo 45 = .ok (.iinc 4 1, 3) := by decide +kernel
theorem dX9_tellTo_48 : decode cX9_tellTo 48 = .ok (.goto (-41), 3) := by decide +kernel
theorem dX9_tellTo_51 : decode cX9_tellTo 51 = .ok (.iload_n 2, 1) := by decide +kernel
theorem dX9_tellTo_52 : decode cX9_tellTo 52 = .ok (.ireturn, 1) := by decide +kernel
theorem dX9_tellOne_0 : decode cX9_tellOne 0 = .ok (.aload_n 0, 1) := by decide +kernel
theorem dX9_tellOne_1 : decode cX9_tellOne 1 = .ok (.iload_n 2, 1) := by decide +kernel
theorem dX9_tellOne_2 : decode cX9_tellOne 2 = .ok (.iconst 1, 1) := by decide +kernel
theorem dX9_tellOne_3 : decode cX9_tellOne 3 = .ok (.iadd, 1) := by decide +kernel
theorem dX9_tellOne_4 : decode cX9_tellOne 4 = .ok (.invokevirtual 63, 3) := by decide +kernel
theorem dX9_tellOne_7 : decode cX9_tellOne 7 = .ok (.istore 4, 2) := by decide +kernel
theorem dX9_tellOne_9 : decode cX9_tellOne 9 = .ok (.aload_n 0, 1) := by decide +kernel
theorem dX9_tellOne_10 : decode cX9_tellOne 10 = .ok (.iload_n 2, 1) := by decide +kernel
theorem dX9_tellOne_11 : decode cX9_tellOne 11 = .ok (.iconst 2, 1) := by decide +kernel
theorem dX9_tellOne_12 : decode cX9_tellOne 12 = .ok (.iadd, 1) := by decide +kernel
theorem dX9_tellOne_13 : decode cX9_tellOne 13 = .ok (.invokevirtual 63, 3) := by decide +kernel
theorem dX9_tellOne_16 : decode cX9_tellOne 16 = .ok (.istore 5, 2) := by decide +kernel
theorem dX9_tellOne_18 : decode cX9_tellOne 18 = .ok (.aload_n 0, 1) := by decide +kernel
theorem dX9_tellOne_19 : decode cX9_tellOne 19 = .ok (.iload_n 2, 1) := by decide +kernel
theorem dX9_tellOne_20 : decode cX9_tellOne 20 = .ok (.iconst 3, 1) := by decide +kernel
theorem dX9_tellOne_21 : decode cX9_tellOne 21 = .ok (.iadd, 1) := by decide +kernel
theorem dX9_tellOne_22 : decode cX9_tellOne 22 = .ok (.invokevirtual 63, 3) := by decide +kernel
theorem dX9_tellOne_25 : decode cX9_tellOne 25 = .ok (.istore 6, 2) := by decide +kernel
theorem dX9_tellOne_27 : decode cX9_tellOne 27 = .ok (.aload_n 0, 1) := by decide +kernel
theorem dX9_tellOne_28 : decode cX9_tellOne 28 = .ok (.iload_n 2, 1) := by decide +kernel
theorem dX9_tellOne_29 : decode cX9_tellOne 29 = .ok (.invokevirtual 60, 3) := by decide +kernel
theorem dX9_tellOne_32 : decode cX9_tellOne 32 = .ok (.lookupswitch 150 #[(97, 68), (112, 112), (115, 44), (116, 99)], 44) := by decide +kernel
theorem dX9_tellOne_76 : decode cX9_tellOne 76 = .ok (.aload_n 1, 1) := by decide +kernel
theorem dX9_tellOne_77 : decode cX9_tellOne 77 = .ok (.getfield 43, 3) := by decide +kernel
theorem dX9_tellOne_80 : decode cX9_tellOne 80 = .ok (.aload_n 0, 1) := by decide +kernel
theorem dX9_tellOne_81 : decode cX9_tellOne 81 = .ok (.iload_n 2, 1) := by decide +kernel
theorem dX9_tellOne_82 : decode cX9_tellOne 82 = .ok (.iconst 1, 1) := by decide +kernel
theorem dX9_tellOne_83 : decode cX9_tellOne 83 = .ok (.iadd, 1) := by decide +kernel
theorem dX9_tellOne_84 : decode cX9_tellOne 84 = .ok (.invokevirtual 60, 3) := by decide +kernel
theorem dX9_tellOne_87 : decode cX9_tellOne 87 = .ok (.invokestatic 38, 3) := by decide +kernel
theorem dX9_tellOne_90 : decode cX9_tellOne 90 = .ok (.iload 5, 2) := by decide +kernel
theorem dX9_tellOne_92 : decode cX9_tellOne 92 = .ok (.iload 6, 2) := by decide +kernel
theorem dX9_tellOne_94 : decode cX9_tellOne 94 = .ok (.invokevirtual 74, 3) := by decide +kernel
theorem dX9_tellOne_97 : decode cX9_tellOne 97 = .ok (.goto 96, 3) := by decide +kernel
theorem dX9_tellOne_100 : decode cX9_tellOne 100 = .ok (.aload_n 1, 1) := by decide +kernel
theorem dX9_tellOne_101 : decode cX9_tellOne 101 = .ok (.iload 4, 2) := by decide +kernel
theorem dX9_tellOne_103 : decode cX9_tellOne 103 = .ok (.iload 5, 2) := by decide +kernel
theorem dX9_tellOne_105 : decode cX9_tellOne 105 = .ok (.iload 6, 2) := by decide +kernel
theorem dX9_tellOne_107 : decode cX9_tellOne 107 = .ok (.bipush 10, 2) := by decide +kernel
theorem dX9_tellOne_109 : decode cX9_tellOne 109 = .ok (.aload_n 0, 1) := by decide +kernel
theorem dX9_tellOne_110 : decode cX9_tellOne 110 = .ok (.iload_n 2, 1) := by decide +kernel
theorem dX9_tellOne_111 : decode cX9_tellOne 111 = .ok (.iconst 4, 1) := by decide +kernel
theorem dX9_tellOne_112 : decode cX9_tellOne 112 = .ok (.iadd, 1) := by decide +kernel
theorem dX9_tellOne_113 : decode cX9_tellOne 113 = .ok (.invokevirtual 63, 3) := by decide +kernel
theorem dX9_tellOne_116 : decode cX9_tellOne 116 = .ok (.imul, 1) := by decide +kernel
theorem dX9_tellOne_117 : decode cX9_tellOne 117 = .ok (.aload_n 0, 1) := by decide +kernel
theorem dX9_tellOne_118 : decode cX9_tellOne 118 = .ok (.iload_n 2, 1) := by decide +kernel
theorem dX9_tellOne_119 : decode cX9_tellOne 119 = .ok (.iconst 5, 1) := by decide +kernel
theorem dX9_tellOne_120 : decode cX9_tellOne 120 = .ok (.iadd, 1) := by decide +kernel
theorem dX9_tellOne_121 : decode cX9_tellOne 121 = .ok (.invokevirtual 63, 3) := by decide +kernel
theorem dX9_tellOne_124 : decode cX9_tellOne 124 = .ok (.iadd, 1) := by decide +kernel
theorem dX9_tellOne_125 : decode cX9_tellOne 125 = .ok (.invokevirtual 78, 3) := by decide +kernel
theorem dX9_tellOne_128 : decode cX9_tellOne 128 = .ok (.goto 65, 3) := by decide +kernel
theorem dX9_tellOne_131 : decode cX9_tellOne 131 = .ok (.aload_n 1, 1) := by decide +kernel
theorem dX9_tellOne_132 : decode cX9_tellOne 132 = .ok (.iload 4, 2) := by decide +kernel
theorem dX9_tellOne_134 : decode cX9_tellOne 134 = .ok (.iload 5, 2) := by decide +kernel
theorem dX9_tellOne_136 : decode cX9_tellOne 136 = .ok (.iload 6, 2) := by decide +kernel
theorem dX9_tellOne_138 : decode cX9_tellOne 138 = .ok (.invokevirtual 81, 3) := by decide +kernel
theorem dX9_tellOne_141 : decode cX9_tellOne 141 = .ok (.goto 52, 3) := by decide +kernel
theorem dX9_tellOne_144 : decode cX9_tellOne 144 = .ok (.iload_n 2, 1) := by decide +kernel
theorem dX9_tellOne_145 : decode cX9_tellOne 145 = .ok (.iconst 2, 1) := by decide +kernel
theorem dX9_tellOne_146 : decode cX9_tellOne 146 = .ok (.iadd, 1) := by decide +kernel
theorem dX9_tellOne_147 : decode cX9_tellOne 147 = .ok (.istore 7, 2) := by decide +kernel
theorem dX9_tellOne_149 : decode cX9_tellOne 149 = .ok (.iload 7, 2) := by decide +kernel
theorem dX9_tellOne_151 : decode cX9_tellOne 151 = .ok (.iload_n 3, 1) := by decide +kernel
theorem dX9_tellOne_152 : decode cX9_tellOne 152 = .ok (.if_icmp .ge 27, 3) := by decide +kernel
theorem dX9_tellOne_155 : decode cX9_tellOne 155 = .ok (.aload_n 1, 1) := by decide +kernel
theorem dX9_tellOne_156 : decode cX9_tellOne 156 = .ok (.iload 4, 2) := by decide +kernel
theorem dX9_tellOne_158 : decode cX9_tellOne 158 = .ok (.iload 7, 2) := by decide +kernel
theorem dX9_tellOne_160 : decode cX9_tellOne 160 = .ok (.iload_n 2, 1) := by decide +kernel
theorem dX9_tellOne_161 : decode cX9_tellOne 161 = .ok (.isub, 1) := by decide +kernel
theorem dX9_tellOne_162 : decode cX9_tellOne 162 = .ok (.iconst 2, 1) := by decide +kernel
theorem dX9_tellOne_163 : decode cX9_tellOne 163 = .ok (.isub, 1) := by decide +kernel
theorem dX9_tellOne_164 : decode cX9_tellOne 164 = .ok (.aload_n 0, 1) := by decide +kernel
theorem dX9_tellOne_165 : decode cX9_tellOne 165 = .ok (.iload 7, 2) := by decide +kernel
theorem dX9_tellOne_167 : decode cX9_tellOne 167 = .ok (.invokevirtual 63, 3) := by decide +kernel
theorem dX9_tellOne_170 : decode cX9_tellOne 170 = .ok (.invokevirtual 81, 3) := by decide +kernel
theorem dX9_tellOne_173 : decode cX9_tellOne 173 = .ok (.iinc 7 1, 3) := by decide +kernel
theorem dX9_tellOne_176 : decode cX9_tellOne 176 = .ok (.goto (-27), 3) := by decide +kernel
theorem dX9_tellOne_179 : decode cX9_tellOne 179 = .ok (.goto 14, 3) := by decide +kernel
theorem dX9_tellOne_182 : decode cX9_tellOne 182 = .ok (.aload_n 1, 1) := by decide +kernel
theorem dX9_tellOne_183 : decode cX9_tellOne 183 = .ok (.getfield 43, 3) := by decide +kernel
theorem dX9_tellOne_186 : decode cX9_tellOne 186 = .ok (.iload 4, 2) := by decide +kernel
theorem dX9_tellOne_188 : decode cX9_tellOne 188 = .ok (.iload 5, 2) := by decide +kernel
theorem dX9_tellOne_190 : decode cX9_tellOne 190 = .ok (.invokevirtual 84, 3) := by decide +kernel
theorem dX9_tellOne_193 : decode cX9_tellOne 193 = .ok (.return_, 1) := by decide +kernel
theorem dX10_init_0 : decode cX10_init 0 = .ok (.aload_n 0, 1) := by decide +kernel
theorem dX10_init_1 : decode cX10_init 1 = .ok (.invokespecial 3, 3) := by decide +kernel
theorem dX10_init_4 : decode cX10_init 4 = .ok (.aload_n 0, 1) := by decide +kernel
theorem dX10_init_5 : decode cX10_init 5 = .ok (.new 9, 3) := by decide +kernel
theorem dX10_init_8 : decode cX10_init 8 = .ok (.dup, 1) := by decide +kernel
theorem dX10_init_9 : decode cX10_init 9 = .ok (.invokespecial 11, 3) := by decide +kernel
theorem dX10_init_12 : decode cX10_init 12 = .ok (.putfield 12, 3) := by decide +kernel
theorem dX10_init_15 : decode cX10_init 15 = .ok (.aload_n 0, 1) := by decide +kernel
theorem dX10_init_16 : decode cX10_init 16 = .ok (.new 18, 3) := by decide +kernel
theorem dX10_init_19 : decode cX10_init 19 = .ok (.dup, 1) := by decide +kernel
theorem dX10_init_20 : decode cX10_init 20 = .ok (.invokespecial 20, 3) := by decide +kernel
theorem dX10_init_23 : decode cX10_init 23 = .ok (.putfield 21, 3) := by decide +kernel
theorem dX10_init_26 : decode cX10_init 26 = .ok (.aload_n 0, 1) := by decide +kernel
theorem dX10_init_27 : decode cX10_init 27 = .ok (.bipush (-9), 2) := by decide +kernel
theorem dX10_init_29 : decode cX10_init 29 = .ok (.putfield 25, 3) := by decide +kernel
theorem dX10_init_32 : decode cX10_init 32 = .ok (.aload_n 0, 1) := by decide +kernel
theorem dX10_init_33 : decode cX10_init 33 = .ok (.bipush 10, 2) := by decide +kernel
theorem dX10_init_35 : decode cX10_init 35 = .ok (.newarray .int, 2) := by decide +kernel
theorem dX10_init_37 : decode cX10_init 37 = .ok (.putfield 29, 3) := by decide +kernel
theorem dX10_init_40 : decode cX10_init 40 = .ok (.aload_n 0, 1) := by decide +kernel
theorem dX10_init_41 : decode cX10_init 41 = .ok (.bipush 10, 2) := by decide +kernel
theorem dX10_init_43 : decode cX10_init 43 = .ok (.newarray .int, 2) := by decide +kernel
theorem dX10_init_45 : decode cX10_init 45 = .ok (.putfield 33, 3) := by decide +kernel
theorem dX10_init_48 : decode cX10_init 48 = .ok (.aload_n 0, 1) := by decide +kernel
theorem dX10_init_49 : decode cX10_init 49 = .ok (.bipush 10, 2) := by decide +kernel
theorem dX10_init_51 : decode cX10_init 51 = .ok (.newarray .int, 2) := by decide +kernel
theorem dX10_init_53 : decode cX10_init 53 = .ok (.putfield 36, 3) := by decide +kernel
theorem dX10_init_56 : decode cX10_init 56 = .ok (.return_, 1) := by decide +kernel
theorem dX10_load_0 : decode cX10_load 0 = .ok (.aload_n 0, 1) := by decide +kernel
theorem dX10_load_1 : decode cX10_load 1 = .ok (.getfield 12, 3) := by decide +kernel
theorem dX10_load_4 : decode cX10_load 4 = .ok (.aload_n 1, 1) := by decide +kernel
theorem dX10_load_5 : decode cX10_load 5 = .ok (.invokevirtual 39, 3) := by decide +kernel
theorem dX10_load_8 : decode cX10_load 8 = .ok (.aload_n 0, 1) := by decide +kernel
theorem dX10_load_9 : decode cX10_load 9 = .ok (.getfield 21, 3) := by decide +kernel
theorem dX10_load_12 : decode cX10_load 12 = .ok (.aload_n 2, 1) := by decide +kernel
theorem dX10_load_13 : decode cX10_load 13 = .ok (.invokevirtual 43, 3) := by decide +kernel
theorem dX10_load_16 : decode cX10_load 16 = .ok (.aload_n 0, 1) := by decide +kernel
theorem dX10_load_17 : decode cX10_load 17 = .ok (.bipush (-9), 2) := by decide +kernel
theorem dX10_load_19 : decode cX10_load 19 = .ok (.putfield 25, 3) := by decide +kernel
theorem dX10_load_22 : decode cX10_load 22 = .ok (.return_, 1) := by decide +kernel
theorem dX10_run_0 : decode cX10_run 0 = .ok (.aload_n 0, 1) := by decide +kernel
theorem dX10_run_1 : decode cX10_run 1 = .ok (.getfield 21, 3) := by decide +kernel
theorem dX10_run_4 : decode cX10_run 4 = .ok (.getfield 46, 3) := by decide +kernel
theorem dX10_run_7 : decode cX10_run 7 = .ok (.iconst 3, 1) := by decide +kernel
theorem dX10_run_8 : decode cX10_run 8 = .ok (.iaload, 1) := by decide +kernel
theorem dX10_run_9 : decode cX10_run 9 = .ok (.istore_n 1, 1) := by decide +kernel
theorem dX10_run_10 : decode cX10_run 10 = .ok (.iconst 0, 1) := by decide +kernel
theorem dX10_run_11 : decode cX10_run 11 = .ok (.istore_n 2, 1) := by decide +kernel
theorem dX10_run_12 : decode cX10_run 12 = .ok (.iconst 0, 1) := by decide +kernel
theorem dX10_run_13 : decode cX10_run 13 = .ok (.istore_n 3, 1) := by decide +kernel
theorem dX10_run_14 : decode cX10_run 14 = .ok (.iload_n 3, 1) := by decide +kernel
theorem dX10_run_15 : decode cX10_run 15 = .ok (.aload_n 0, 1) := by decide +kernel
theorem dX10_run_16 : decode cX10_run 16 = .ok (.getfield 12, 3) := by decide +kernel
theorem dX10_run_19 : decode cX10_run 19 = .ok (.getfield 49, 3) := by decide +kernel
theorem dX10_run_22 : decode cX10_run 22 = .ok (.if_icmp .ge 110, 3) := by decide +kernel
theorem dX10_run_25 : decode cX10_run 25 = .ok (.aload_n 0, 1) := by decide +kernel
theorem dX10_run_26 : decode cX10_run 26 = .ok (.getfield 21, 3) := by decide +kernel
theorem dX10_run_29 : decode cX10_run 29 = .ok (.getfield 52, 3) := by decide +kernel
theorem dX10_run_32 : decode cX10_run 32 = .ok (.iload_n 3, 1) := by decide +kernel
theorem dX10_run_33 : decode cX10_run 33 = .ok (.iaload, 1) := by decide +kernel
theorem dX10_run_34 : decode cX10_run 34 = .ok (.istore 4, 2) := by decide +kernel
theorem dX10_run_36 : decode cX10_run 36 = .ok (.aload_n 0, 1) := by decide +kernel
theorem dX10_run_37 : decode cX10_run 37 = .ok (.getfield 29, 3) := by decide +kernel
theorem dX10_run_40 : decode cX10_run 40 = .ok (.iload_n 3, 1) := by decide +kernel
theorem dX10_run_41 : decode cX10_run 41 = .ok (.aload_n 0, 1) := by decide +kernel
theorem dX10_run_42 : decode cX10_run 42 = .ok (.getfield 12, 3) := by decide +kernel
theorem dX10_run_45 : decode cX10_run 45 = .ok (.iload_n 3, 1) := by decide +kernel
theorem dX10_run_46 : decode cX10_run 46 = .ok (.aload_n 0, 1) := by decide +kernel
theorem dX10_run_47 : decode cX10_run 47 = .ok (.getfield 21, 3) := by decide +kernel
theorem dX10_run_50 : decode cX10_run 50 = .ok (.invokevirtual 55, 3) := by decide +kernel
theorem dX10_run_53 : decode cX10_run 53 = .ok (.iload 4, 2) := by decide +kernel
theorem dX10_run_55 : decode cX10_run 55 = .ok (.iload_n 1, 1) := by decide +kernel
theorem dX10_run_56 : decode cX10_run 56 = .ok (.invokestatic 59, 3) := by decide +kernel
theorem dX10_run_59 : decode cX10_run 59 = .ok (.iastore, 1) := by decide +kernel
theorem dX10_run_60 : decode cX10_run 60 = .ok (.aload_n 0, 1) := by decide +kernel
theorem dX10_run_61 : decode cX10_run 61 = .ok (.getfield 12, 3) := by decide +kernel
theorem dX10_run_64 : decode cX10_run 64 = .ok (.getfield 65, 3) := by decide +kernel
theorem dX10_run_67 : decode cX10_run 67 = .ok (.iload_n 3, 1) := by decide +kernel
theorem dX10_run_68 : decode cX10_run 68 = .ok (.iaload, 1) := by decide +kernel
theorem dX10_run_69 : decode cX10_run 69 = .ok (.aload_n 0, 1) := by decide +kernel
theorem dX10_run_70 : decode cX10_run 70 = .ok (.getfield 12, 3) := by decide +kernel
theorem dX10_run_73 : decode cX10_run 73 = .ok (.getfield 68, 3) := by decide +kernel
theorem dX10_run_76 : decode cX10_run 76 = .ok (.iload_n 3, 1) := by decide +kernel
theorem dX10_run_77 : decode cX10_run 77 = .ok (.iaload, 1) := by decide +kernel
theorem dX10_run_78 : decode cX10_run 78 = .ok (.iload 4, 2) := by decide +kernel
theorem dX10_run_80 : decode cX10_run 80 = .ok (.iload_n 1, 1) := by decide +kernel
theorem dX10_run_81 : decode cX10_run 81 = .ok (.invokestatic 71, 3) := by decide +kernel
theorem dX10_run_84 : decode cX10_run 84 = .ok (.istore_n 1, 1) := by decide +kernel
theorem dX10_run_85 : decode cX10_run 85 = .ok (.iload_n 3, 1) := by decide +kernel
theorem dX10_run_86 : decode cX10_run 86 = .ok (.aload_n 0, 1) := by decide +kernel
theorem dX10_run_87 : decode cX10_run 87 = .ok (.getfield 25, 3) := by decide +kernel
theorem dX10_run_90 : decode cX10_run 90 = .ok (.if_icmp .ne 13, 3) := by decide +kernel
theorem dX10_run_93 : decode cX10_run 93 = .ok (.bipush 99, 2) := by decide +kernel
theorem dX10_run_95 : decode cX10_run 95 = .ok (.iload_n 1, 1) := by decide +kernel
theorem dX10_run_96 : decode cX10_run 96 = .ok (.bipush 20, 2) := by decide +kernel
theorem dX10_run_98 : decode cX10_run 98 = .ok (.iadd, 1) := by decide +kernel
theorem dX10_run_99 : decode cX10_run 99 = .ok (.invokestatic 75, 3) := by decide +kernel
theorem dX10_run_102 : decode cX10_run 102 = .ok (.istore_n 1, 1) := by decide +kernel
theorem dX10_run_103 : decode cX10_run 103 = .ok (.iload_n 2, 1) := by decide +kernel
theorem dX10_run_104 : decode cX10_run 104 = .ok (.aload_n 0, 1) := by decide +kernel
theorem dX10_run_105 : decode cX10_run 105 = .ok (.getfield 29, 3) := by decide +kernel
theorem dX10_run_108 : decode cX10_run 108 = .ok (.iload_n 3, 1) := by decide +kernel
theorem dX10_run_109 : decode cX10_run 109 = .ok (.iaload, 1) := by decide +kernel
theorem dX10_run_110 : decode cX10_run 110 = .ok (.iadd, 1) := by decide +kernel
theorem dX10_run_111 : decode cX10_run 111 = .ok (.istore_n 2, 1) := by decide +kernel
theorem dX10_run_112 : decode cX10_run 112 = .ok (.aload_n 0, 1) := by decide +kernel
theorem dX10_run_113 : decode cX10_run 113 = .ok (.getfield 33, 3) := by decide +kernel
theorem dX10_run_116 : decode cX10_run 116 = .ok (.iload_n 3, 1) := by decide +kernel
theorem dX10_run_117 : decode cX10_run 117 = .ok (.iload_n 1, 1) := by decide +kernel
theorem dX10_run_118 : decode cX10_run 118 = .ok (.iastore, 1) := by decide +kernel
theorem dX10_run_119 : decode cX10_run 119 = .ok (.aload_n 0, 1) := by decide +kernel
theorem dX10_run_120 : decode cX10_run 120 = .ok (.getfield 36, 3) := by decide +kernel
theorem dX10_run_123 : decode cX10_run 123 = .ok (.iload_n 3, 1) := by decide +kernel
theorem dX10_run_124 : decode cX10_run 124 = .ok (.iload_n 2, 1) := by decide +kernel
theorem dX10_run_125 : decode cX10_run 125 = .ok (.iastore, 1) := by decide +kernel
theorem dX10_run_126 : decode cX10_run 126 = .ok (.iinc 3 1, 3) := by decide +kernel
theorem dX10_run_129 : decode cX10_run 129 = .ok (.goto (-115), 3) := by decide +kernel
theorem dX10_run_132 : decode cX10_run 132 = .ok (.iload_n 2, 1) := by decide +kernel
theorem dX10_run_133 : decode cX10_run 133 = .ok (.ireturn, 1) := by decide +kernel
theorem dX10_rideAt_0 : decode cX10_rideAt 0 = .ok (.iconst 0, 1) := by decide +kernel
theorem dX10_rideAt_1 : decode cX10_rideAt 1 = .ok (.istore_n 2, 1) := by decide +kernel
theorem dX10_rideAt_2 : decode cX10_rideAt 2 = .ok (.iload_n 2, 1) := by decide +kernel
theorem dX10_rideAt_3 : decode cX10_rideAt 3 = .ok (.aload_n 0, 1) := by decide +kernel
theorem dX10_rideAt_4 : decode cX10_rideAt 4 = .ok (.getfield 12, 3) := by decide +kernel
theorem dX10_rideAt_7 : decode cX10_rideAt 7 = .ok (.getfield 49, 3) := by decide +kernel
theorem dX10_rideAt_10 : decode cX10_rideAt 10 = .ok (.if_icmp .ge 34, 3) := by decide +kernel
theorem dX10_rideAt_13 : decode cX10_rideAt 13 = .ok (.aload_n 0, 1) := by decide +kernel
theorem dX10_rideAt_14 : decode cX10_rideAt 14 = .ok (.getfield 12, 3) := by decide +kernel
theorem dX10_rideAt_17 : decode cX10_rideAt 17 = .ok (.getfield 65, 3) := by decide +kernel
theorem dX10_rideAt_20 : decode cX10_rideAt 20 = .ok (.iload_n 2, 1) := by decide +kernel
theorem dX10_rideAt_21 : decode cX10_rideAt 21 = .ok (.iaload, 1) := by decide +kernel
theorem dX10_rideAt_22 : decode cX10_rideAt 22 = .ok (.invokestatic 81, 3) := by decide +kernel
theorem dX10_rideAt_25 : decode cX10_rideAt 25 = .ok (.ifCond .eq 13, 3) := by decide +kernel
theorem dX10_rideAt_28 : decode cX10_rideAt 28 = .ok (.aload_n 0, 1) := by decide +kernel
theorem dX10_rideAt_29 : decode cX10_rideAt 29 = .ok (.getfield 21, 3) := by decide +kernel
theorem dX10_rideAt_32 : decode cX10_rideAt 32 = .ok (.getfield 52, 3) := by decide +kernel
theorem dX10_rideAt_35 : decode cX10_rideAt 35 = .ok (.iload_n 2, 1) := by decide +kernel
theorem dX10_rideAt_36 : decode cX10_rideAt 36 = .ok (.iload_n 1, 1) := by decide +kernel
theorem dX10_rideAt_37 : decode cX10_rideAt 37 = .ok (.iastore, 1) := by decide +kernel
theorem dX10_rideAt_38 : decode cX10_rideAt 38 = .ok (.iinc 2 1, 3) := by decide +kernel
theorem dX10_rideAt_41 : decode cX10_rideAt 41 = .ok (.goto (-39), 3) := by decide +kernel
theorem dX10_rideAt_44 : decode cX10_rideAt 44 = .ok (.return_, 1) := by decide +kernel
theorem dX10_leaveOut_0 : decode cX10_leaveOut 0 = .ok (.aload_n 0, 1) := by decide +kernel
theorem dX10_leaveOut_1 : decode cX10_leaveOut 1 = .ok (.getfield 12, 3) := by decide +kernel
theorem dX10_leaveOut_4 : decode cX10_leaveOut 4 = .ok (.iload_n 1, 1) := by decide +kernel
theorem dX10_leaveOut_5 : decode cX10_leaveOut 5 = .ok (.invokevirtual 85, 3) := by decide +kernel
theorem dX10_leaveOut_8 : decode cX10_leaveOut 8 = .ok (.ifCond .ne 4, 3) := by decide +kernel
theorem dX10_leaveOut_11 : decode cX10_leaveOut 11 = .ok (.return_, 1) := by decide +kernel
theorem dX10_leaveOut_12 : decode cX10_leaveOut 12 = .ok (.iload_n 1, 1) := by decide +kernel
theorem dX10_leaveOut_13 : decode cX10_leaveOut 13 = .ok (.istore_n 2, 1) := by decide +kernel
theorem dX10_leaveOut_14 : decode cX10_leaveOut 14 = .ok (.iload_n 2, 1) := by decide +kernel
theorem dX10_leaveOut_15 : decode cX10_leaveOut 15 = .ok (.iconst 1, 1) := by decide +kernel
theorem dX10_leaveOut_16 : decode cX10_leaveOut 16 = .ok (.iadd, 1) := by decide +kernel
theorem dX10_leaveOut_17 : decode cX10_leaveOut 17 = .ok (.aload_n 0, 1) := by decide +kernel
theorem dX10_leaveOut_18 : decode cX10_leaveOut 18 = .ok (.getfield 12, 3) := by decide +kernel
theorem dX10_leaveOut_21 : decode cX10_leaveOut 21 = .ok (.getfield 49, 3) := by decide +kernel
theorem dX10_leaveOut_24 : decode cX10_leaveOut 24 = .ok (.if_icmp .ge 29, 3) := by decide +kernel
theorem dX10_leaveOut_27 : decode cX10_leaveOut 27 = .ok (.aload_n 0, 1) := by decide +kernel
theorem dX10_leaveOut_28 : decode cX10_leaveOut 28 = .ok (.getfield 21, 3) := by decide +kernel
theorem dX10_leaveOut_31 : decode cX10_leaveOut 31 = .ok (.getfield 52, 3) := by decide +kernel
theorem dX10_leaveOut_34 : decode cX10_leaveOut 34 = .ok (.iload_n 2, 1) := by decide +kernel
theorem dX10_leaveOut_35 : decode cX10_leaveOut 35 = .ok (.aload_n 0, 1) := by decide +kernel
theorem dX10_leaveOut_36 : decode cX10_leaveOut 36 = .ok (.getfield 21, 3) := by decide +kernel
theorem dX10_leaveOut_39 : decode cX10_leaveOut 39 = .ok (.getfield 52, 3) := by decide +kernel
theorem dX10_leaveOut_42 : decode cX10_leaveOut 42 = .ok (.iload_n 2, 1) := by decide +kernel
theorem dX10_leaveOut_43 : decode cX10_leaveOut 43 = .ok (.iconst 1, 1) := by decide +kernel
theorem dX10_leaveOut_44 : decode cX10_leaveOut 44 = .ok (.iadd, 1) := by decide +kernel
theorem dX10_leaveOut_45 : decode cX10_leaveOut 45 = .ok (.iaload, 1) := by decide +kernel
theorem dX10_leaveOut_46 : decode cX10_leaveOut 46 = .ok (.iastore, 1) := by decide +kernel
theorem dX10_leaveOut_47 : decode cX10_leaveOut 47 = .ok (.iinc 2 1, 3) := by decide +kernel
theorem dX10_leaveOut_50 : decode cX10_leaveOut 50 = .ok (.goto (-36), 3) := by decide +kernel
theorem dX10_leaveOut_53 : decode cX10_leaveOut 53 = .ok (.aload_n 0, 1) := by decide +kernel
theorem dX10_leaveOut_54 : decode cX10_leaveOut 54 = .ok (.getfield 12, 3) := by decide +kernel
theorem dX10_leaveOut_57 : decode cX10_leaveOut 57 = .ok (.iload_n 1, 1) := by decide +kernel
theorem dX10_leaveOut_58 : decode cX10_leaveOut 58 = .ok (.invokevirtual 88, 3) := by decide +kernel
theorem dX10_leaveOut_61 : decode cX10_leaveOut 61 = .ok (.return_, 1) := by decide +kernel
theorem dX10_legsAtFinish_0 : decode cX10_legsAtFinish 0 = .ok (.aload_n 0, 1) := by decide +kernel
theorem dX10_legsAtFinish_1 : decode cX10_legsAtFinish 1 = .ok (.getfield 12, 3) := by decide +kernel
theorem dX10_legsAtFinish_4 : decode cX10_legsAtFinish 4 = .ok (.getfield 49, 3) := by decide +kernel
theorem dX10_legsAtFinish_7 : decode cX10_legsAtFinish 7 = .ok (.ifCond .ne 15, 3) := by decide +kernel
theorem dX10_legsAtFinish_10 : decode cX10_legsAtFinish 10 = .ok (.aload_n 0, 1) := by decide +kernel
theorem dX10_legsAtFinish_11 : decode cX10_legsAtFinish 11 = .ok (.getfield 21, 3) := by decide +kernel
theorem dX10_legsAtFinish_14 : decode cX10_legsAtFinish 14 = .ok (.getfield 46, 3) := by decide +kernel
theorem dX10_legsAtFinish_17 : decode cX10_legsAtFinish 17 = .ok (.iconst 3, 1) := by decide +kernel
theorem dX10_legsAtFinish_18 : decode cX10_legsAtFinish 18 = .ok (.iaload, 1) := by decide +kernel
theorem dX10_legsAtFinish_19 : decode cX10_legsAtFinish 19 = .ok (.goto 17, 3) := by decide +kernel
theorem dX10_legsAtFinish_22 : decode cX10_legsAtFinish 22 = .ok (.aload_n 0, 1) := by decide +kernel
theorem dX10_legsAtFinish_23 : decode cX10_legsAtFinish 23 = .ok (.getfield 33, 3) := by decide +kernel
theorem dX10_legsAtFinish_26 : decode cX10_legsAtFinish 26 = .ok (.aload_n 0, 1) := by decide +kernel
theorem dX10_legsAtFinish_27 : decode cX10_legsAtFinish 27 = .ok (.getfield 12, 3) := by decide +kernel
theorem dX10_legsAtFinish_30 : decode cX10_legsAtFinish 30 = .ok (.getfield 49, 3) := by decide +kernel
theorem dX10_legsAtFinish_33 : decode cX10_legsAtFinish 33 = .ok (.iconst 1, 1) := by decide +kernel
theorem dX10_legsAtFinish_34 : decode cX10_legsAtFinish 34 = .ok (.isub, 1) := by decide +kernel
theorem dX10_legsAtFinish_35 : decode cX10_legsAtFinish 35 = .ok (.iaload, 1) := by decide +kernel
theorem dX10_legsAtFinish_36 : decode cX10_legsAtFinish 36 = .ok (.ireturn, 1) := by decide +kernel
theorem dX10_gone_0 : decode cX10_gone 0 = .ok (.iconst 0, 1) := by decide +kernel
theorem dX10_gone_1 : decode cX10_gone 1 = .ok (.istore_n 1, 1) := by decide +kernel
theorem dX10_gone_2 : decode cX10_gone 2 = .ok (.iload_n 1, 1) := by decide +kernel
theorem dX10_gone_3 : decode cX10_gone 3 = .ok (.aload_n 0, 1) := by decide +kernel
theorem dX10_gone_4 : decode cX10_gone 4 = .ok (.getfield 12, 3) := by decide +kernel
theorem dX10_gone_7 : decode cX10_gone 7 = .ok (.getfield 49, 3) := by decide +kernel
theorem dX10_gone_10 : decode cX10_gone 10 = .ok (.if_icmp .ge 20, 3) := by decide +kernel
theorem dX10_gone_13 : decode cX10_gone 13 = .ok (.aload_n 0, 1) := by decide +kernel
theorem dX10_gone_14 : decode cX10_gone 14 = .ok (.getfield 33, 3) := by decide +kernel
theorem dX10_gone_17 : decode cX10_gone 17 = .ok (.iload_n 1, 1) := by decide +kernel
theorem dX10_gone_18 : decode cX10_gone 18 = .ok (.iaload, 1) := by decide +kernel
theorem dX10_gone_19 : decode cX10_gone 19 = .ok (.ifCond .ne 5, 3) := by decide +kernel
theorem dX10_gone_22 : decode cX10_gone 22 = .ok (.iload_n 1, 1) := by decide +kernel
theorem dX10_gone_23 : decode cX10_gone 23 = .ok (.ireturn, 1) := by decide +kernel
theorem dX10_gone_24 : decode cX10_gone 24 = .ok (.iinc 1 1, 3) := by decide +kernel
theorem dX10_gone_27 : decode cX10_gone 27 = .ok (.goto (-25), 3) := by decide +kernel
theorem dX10_gone_30 : decode cX10_gone 30 = .ok (.bipush (-9), 2) := by decide +kernel
theorem dX10_gone_32 : decode cX10_gone 32 = .ok (.ireturn, 1) := by decide +kernel
theorem dX10_sectionAt_0 : decode cX10_sectionAt 0 = .ok (.iconst 0, 1) := by decide +kernel
theorem dX10_sectionAt_1 : decode cX10_sectionAt 1 = .ok (.istore_n 2, 1) := by decide +kernel
theorem dX10_sectionAt_2 : decode cX10_sectionAt 2 = .ok (.iload_n 2, 1) := by decide +kernel
theorem dX10_sectionAt_3 : decode cX10_sectionAt 3 = .ok (.aload_n 0, 1) := by decide +kernel
theorem dX10_sectionAt_4 : decode cX10_sectionAt 4 = .ok (.getfield 12, 3) := by decide +kernel
theorem dX10_sectionAt_7 : decode cX10_sectionAt 7 = .ok (.getfield 49, 3) := by decide +kernel
theorem dX10_sectionAt_10 : decode cX10_sectionAt 10 = .ok (.if_icmp .ge 21, 3) := by decide +kernel
theorem dX10_sectionAt_13 : decode cX10_sectionAt 13 = .ok (.iload_n 1, 1) := by decide +kernel
theorem dX10_sectionAt_14 : decode cX10_sectionAt 14 = .ok (.aload_n 0, 1) := by decide +kernel
theorem dX10_sectionAt_15 : decode cX10_sectionAt 15 = .ok (.getfield 36, 3) := by decide +kernel
theorem dX10_sectionAt_18 : decode cX10_sectionAt 18 = .ok (.iload_n 2, 1) := by decide +kernel
theorem dX10_sectionAt_19 : decode cX10_sectionAt 19 = .ok (.iaload, 1) := by decide +kernel
theorem dX10_sectionAt_20 : decode cX10_sectionAt 20 = .ok (.if_icmp .ge 5, 3) := by decide +kernel
theorem dX10_sectionAt_23 : decode cX10_sectionAt 23 = .ok (.iload_n 2, 1) := by decide +kernel
theorem dX10_sectionAt_24 : decode cX10_sectionAt 24 = .ok (.ireturn, 1) := by decide +kernel
theorem dX10_sectionAt_25 : decode cX10_sectionAt 25 = .ok (.iinc 2 1, 3) := by decide +kernel
theorem dX10_sectionAt_28 : decode cX10_sectionAt 28 = .ok (.goto (-26), 3) := by decide +kernel
theorem dX10_sectionAt_31 : decode cX10_sectionAt 31 = .ok (.aload_n 0, 1) := by decide +kernel
theorem dX10_sectionAt_32 : decode cX10_sectionAt 32 = .ok (.getfield 12, 3) := by decide +kernel
theorem dX10_sectionAt_35 : decode cX10_sectionAt 35 = .ok (.getfield 49, 3) := by decide +kernel
theorem dX10_sectionAt_38 : decode cX10_sectionAt 38 = .ok (.ireturn, 1) := by decide +kernel
theorem dX10_isPastIn_0 : decode cX10_isPastIn 0 = .ok (.iload_n 1, 1) := by decide +kernel
theorem dX10_isPastIn_1 : decode cX10_isPastIn 1 = .ok (.ifCond .ne 5, 3) := by decide +kernel
theorem dX10_isPastIn_4 : decode cX10_isPastIn 4 = .ok (.iconst 0, 1) := by decide +kernel
theorem dX10_isPastIn_5 : decode cX10_isPastIn 5 = .ok (.ireturn, 1) := by decide +kernel
theorem dX10_isPastIn_6 : decode cX10_isPastIn 6 = .ok (.aload_n 0, 1) := by decide +kernel
theorem dX10_isPastIn_7 : decode cX10_isPastIn 7 = .ok (.getfield 36, 3) := by decide +kernel
theorem dX10_isPastIn_10 : decode cX10_isPastIn 10 = .ok (.iload_n 1, 1) := by decide +kernel
theorem dX10_isPastIn_11 : decode cX10_isPastIn 11 = .ok (.iconst 1, 1) := by decide +kernel
theorem dX10_isPastIn_12 : decode cX10_isPastIn 12 = .ok (.isub, 1) := by decide +kernel
theorem dX10_isPastIn_13 : decode cX10_isPastIn 13 = .ok (.iaload, 1) := by decide +kernel
theorem dX10_isPastIn_14 : decode cX10_isPastIn 14 = .ok (.aload_n 2, 1) := by decide +kernel
theorem dX10_isPastIn_15 : decode cX10_isPastIn 15 = .ok (.getfield 36, 3) := by decide +kernel
theorem dX10_isPastIn_18 : decode cX10_isPastIn 18 = .ok (.iload_n 1, 1) := by decide +kernel
theorem dX10_isPastIn_19 : decode cX10_isPastIn 19 = .ok (.iconst 1, 1) := by decide +kernel
theorem dX10_isPastIn_20 : decode cX10_isPastIn 20 = .ok (.isub, 1) := by decide +kernel
theorem dX10_isPastIn_21 : decode cX10_isPastIn 21 = .ok (.iaload, 1) := by decide +kernel
theorem dX10_isPastIn_22 : decode cX10_isPastIn 22 = .ok (.if_icmp .le 22, 3) := by decide +kernel
theorem dX10_isPastIn_25 : decode cX10_isPastIn 25 = .ok (.aload_n 0, 1) := by decide +kernel
theorem dX10_isPastIn_26 : decode cX10_isPastIn 26 = .ok (.getfield 36, 3) := by decide +kernel
theorem dX10_isPastIn_29 : decode cX10_isPastIn 29 = .ok (.iload_n 1, 1) := by decide +kernel
theorem dX10_isPastIn_30 : decode cX10_isPastIn 30 = .ok (.iaload, 1) := by decide +kernel
theorem dX10_isPastIn_31 : decode cX10_isPastIn 31 = .ok (.aload_n 2, 1) := by decide +kernel
theorem dX10_isPastIn_32 : decode cX10_isPastIn 32 = .ok (.getfield 36, 3) := by decide +kernel
theorem dX10_isPastIn_35 : decode cX10_isPastIn 35 = .ok (.iload_n 1, 1) := by decide +kernel
theorem dX10_isPastIn_36 : decode cX10_isPastIn 36 = .ok (.iaload, 1) := by decide +kernel
theorem dX10_isPastIn_37 : decode cX10_isPastIn 37 = .ok (.if_icmp .ge 7, 3) := by decide +kernel
theorem dX10_isPastIn_40 : decode cX10_isPastIn 40 = .ok (.iconst 1, 1) := by decide +kernel
theorem dX10_isPastIn_41 : decode cX10_isPastIn 41 = .ok (.goto 4, 3) := by decide +kernel
theorem dX10_isPastIn_44 : decode cX10_isPastIn 44 = .ok (.iconst 0, 1) := by decide +kernel
theorem dX10_isPastIn_45 : decode cX10_isPastIn 45 = .ok (.ireturn, 1) := by decide +kernel
theorem dX10_howOftenPast_0 : decode cX10_howOftenPast 0 = .ok (.iconst 0, 1) := by decide +kernel
theorem dX10_howOftenPast_1 : decode cX10_howOftenPast 1 = .ok (.istore_n 2, 1) := by decide +kernel
theorem dX10_howOftenPast_2 : decode cX10_howOftenPast 2 = .ok (.iconst 0, 1) := by decide +kernel
theorem dX10_howOftenPast_3 : decode cX10_howOftenPast 3 = .ok (.istore_n 3, 1) := by decide +kernel
theorem dX10_howOftenPast_4 : decode cX10_howOftenPast 4 = .ok (.iload_n 3, 1) := by decide +kernel
theorem dX10_howOftenPast_5 : decode cX10_howOftenPast 5 = .ok (.aload_n 0, 1) := by decide +kernel
theorem dX10_howOftenPast_6 : decode cX10_howOftenPast 6 = .ok (.getfield 12, 3) := by decide +kernel
theorem dX10_howOftenPast_9 : decode cX10_howOftenPast 9 = .ok (.getfield 49, 3) := by decide +kernel
theorem dX10_howOftenPast_12 : decode cX10_howOftenPast 12 = .ok (.if_icmp .ge 21, 3) := by decide +kernel
theorem dX10_howOftenPast_15 : decode cX10_howOftenPast 15 = .ok (.aload_n 0, 1) := by decide +kernel
theorem dX10_howOftenPast_16 : decode cX10_howOftenPast 16 = .ok (.iload_n 3, 1) := by decide +kernel
theorem dX10_howOftenPast_17 : decode cX10_howOftenPast 17 = .ok (.aload_n 1, 1) := by decide +kernel
theorem dX10_howOftenPast_18 : decode cX10_howOftenPast 18 = .ok (.invokevirtual 92, 3) := by decide +kernel
theorem dX10_howOftenPast_21 : decode cX10_howOftenPast 21 = .ok (.ifCond .eq 6, 3) := by decide +kernel
theorem dX10_howOftenPast_24 : decode cX10_howOftenPast 24 = .ok (.iinc 2 1, 3) := by decide +kernel
theorem dX10_howOftenPast_27 : decode cX10_howOftenPast 27 = .ok (.iinc 3 1, 3) := by decide +kernel
theorem dX10_howOftenPast_30 : decode cX10_howOftenPast 30 = .ok (.goto (-26), 3) := by decide +kernel
theorem dX10_howOftenPast_33 : decode cX10_howOftenPast 33 = .ok (.iload_n 2, 1) := by decide +kernel
theorem dX10_howOftenPast_34 : decode cX10_howOftenPast 34 = .ok (.ireturn, 1) := by decide +kernel
theorem dX10_firstPast_0 : decode cX10_firstPast 0 = .ok (.iconst 0, 1) := by decide +kernel
theorem dX10_firstPast_1 : decode cX10_firstPast 1 = .ok (.istore_n 2, 1) := by decide +kernel
theorem dX10_firstPast_2 : decode cX10_firstPast 2 = .ok (.iload_n 2, 1) := by decide +kernel
theorem dX10_firstPast_3 : decode cX10_firstPast 3 = .ok (.aload_n 0, 1) := by decide +kernel
theorem dX10_firstPast_4 : decode cX10_firstPast 4 = .ok (.getfield 12, 3) := by decide +kernel
theorem dX10_firstPast_7 : decode cX10_firstPast 7 = .ok (.getfield 49, 3) := by decide +kernel
theorem dX10_firstPast_10 : decode cX10_firstPast 10 = .ok (.if_icmp .ge 20, 3) := by decide +kernel
theorem dX10_firstPast_13 : decode cX10_firstPast 13 = .ok (.aload_n 0, 1) := by decide +kernel
theorem dX10_firstPast_14 : decode cX10_firstPast 14 = .ok (.iload_n 2, 1) := by decide +kernel
theorem dX10_firstPast_15 : decode cX10_firstPast 15 = .ok (.aload_n 1, 1) := by decide +kernel
theorem dX10_firstPast_16 : decode cX10_firstPast 16 = .ok (.invokevirtual 92, 3) := by decide +kernel
theorem dX10_firstPast_19 : decode cX10_firstPast 19 = .ok (.ifCond .eq 5, 3) := by decide +kernel
theorem dX10_firstPast_22 : decode cX10_firstPast 22 = .ok (.iload_n 2, 1) := by decide +kernel
theorem dX10_firstPast_23 : decode cX10_firstPast 23 = .ok (.ireturn, 1) := by decide +kernel
theorem dX10_firstPast_24 : decode cX10_firstPast 24 = .ok (.iinc 2 1, 3) := by decide +kernel
theorem dX10_firstPast_27 : decode cX10_firstPast 27 = .ok (.goto (-25), 3) := by decide +kernel
theorem dX10_firstPast_30 : decode cX10_firstPast 30 = .ok (.bipush (-9), 2) := by decide +kernel
theorem dX10_firstPast_32 : decode cX10_firstPast 32 = .ok (.ireturn, 1) := by decide +kernel
theorem dX10_slowest_0 : decode cX10_slowest 0 = .ok (.bipush (-9), 2) := by decide +kernel
theorem dX10_slowest_2 : decode cX10_slowest 2 = .ok (.istore_n 1, 1) := by decide +kernel
theorem dX10_slowest_3 : decode cX10_slowest 3 = .ok (.iconst 0, 1) := by decide +kernel
theorem dX10_slowest_4 : decode cX10_slowest 4 = .ok (.istore_n 2, 1) := by decide +kernel
theorem dX10_slowest_5 : decode cX10_slowest 5 = .ok (.iload_n 2, 1) := by decide +kernel
theorem dX10_slowest_6 : decode cX10_slowest 6 = .ok (.aload_n 0, 1) := by decide +kernel
theorem dX10_slowest_7 : decode cX10_slowest 7 = .ok (.getfield 12, 3) := by decide +kernel
theorem dX10_slowest_10 : decode cX10_slowest 10 = .ok (.getfield 49, 3) := by decide +kernel
theorem dX10_slowest_13 : decode cX10_slowest 13 = .ok (.if_icmp .ge 52, 3) := by decide +kernel
theorem dX10_slowest_16 : decode cX10_slowest 16 = .ok (.iload_n 1, 1) := by decide +kernel
theorem dX10_slowest_17 : decode cX10_slowest 17 = .ok (.bipush (-9), 2) := by decide +kernel
theorem dX10_slowest_19 : decode cX10_slowest 19 = .ok (.if_icmp .eq 38, 3) := by decide +kernel
theorem dX10_slowest_22 : decode cX10_slowest 22 = .ok (.aload_n 0, 1) := by decide +kernel
theorem dX10_slowest_23 : decode cX10_slowest 23 = .ok (.getfield 29, 3) := by decide +kernel
theorem dX10_slowest_26 : decode cX10_slowest 26 = .ok (.iload_n 2, 1) := by decide +kernel
theorem dX10_slowest_27 : decode cX10_slowest 27 = .ok (.iaload, 1) := by decide +kernel
theorem dX10_slowest_28 : decode cX10_slowest 28 = .ok (.aload_n 0, 1) := by decide +kernel
theorem dX10_slowest_29 : decode cX10_slowest 29 = .ok (.getfield 12, 3) := by decide +kernel
theorem dX10_slowest_32 : decode cX10_slowest 32 = .ok (.getfield 68, 3) := by decide +kernel
theorem dX10_slowest_35 : decode cX10_slowest 35 = .ok (.iload_n 1, 1) := by decide +kernel
theorem dX10_slowest_36 : decode cX10_slowest 36 = .ok (.iaload, 1) := by decide +kernel
theorem dX10_slowest_37 : decode cX10_slowest 37 = .ok (.imul, 1) := by decide +kernel
theorem dX10_slowest_38 : decode cX10_slowest 38 = .ok (.aload_n 0, 1) := by decide +kernel
theorem dX10_slowest_39 : decode cX10_slowest 39 = .ok (.getfield 29, 3) := by decide +kernel
theorem dX10_slowest_42 : decode cX10_slowest 42 = .ok (.iload_n 1, 1) := by decide +kernel
theorem dX10_slowest_43 : decode cX10_slowest 43 = .ok (.iaload, 1) := by decide +kernel
theorem dX10_slowest_44 : decode cX10_slowest 44 = .ok (.aload_n 0, 1) := by decide +kernel
theorem dX10_slowest_45 : decode cX10_slowest 45 = .ok (.getfield 12, 3) := by decide +kernel
theorem dX10_slowest_48 : decode cX10_slowest 48 = .ok (.getfield 68, 3) := by decide +kernel
theorem dX10_slowest_51 : decode cX10_slowest 51 = .ok (.iload_n 2, 1) := by decide +kernel
theorem dX10_slowest_52 : decode cX10_slowest 52 = .ok (.iaload, 1) := by decide +kernel
theorem dX10_slowest_53 : decode cX10_slowest 53 = .ok (.imul, 1) := by decide +kernel
theorem dX10_slowest_54 : decode cX10_slowest 54 = .ok (.if_icmp .le 5, 3) := by decide +kernel
theorem dX10_slowest_57 : decode cX10_slowest 57 = .ok (.iload_n 2, 1) := by decide +kernel
theorem dX10_slowest_58 : decode cX10_slowest 58 = .ok (.istore_n 1, 1) := by decide +kernel
theorem dX10_slowest_59 : decode cX10_slowest 59 = .ok (.iinc 2 1, 3) := by decide +kernel
theorem dX10_slowest_62 : decode cX10_slowest 62 = .ok (.goto (-57), 3) := by decide +kernel
theorem dX10_slowest_65 : decode cX10_slowest 65 = .ok (.iload_n 1, 1) := by decide +kernel
theorem dX10_slowest_66 : decode cX10_slowest 66 = .ok (.ireturn, 1) := by decide +kernel
theorem dX10_secondsOfChanges_0 : decode cX10_secondsOfChanges 0 = .ok (.iconst 0, 1) := by decide +kernel
theorem dX10_secondsOfChanges_1 : decode cX10_secondsOfChanges 1 = .ok (.istore_n 1, 1) := by decide +kernel
theorem dX10_secondsOfChanges_2 : decode cX10_secondsOfChanges 2 = .ok (.iconst 0, 1) := by decide +kernel
theorem dX10_secondsOfChanges_3 : decode cX10_secondsOfChanges 3 = .ok (.istore_n 2, 1) := by decide +kernel
theorem dX10_secondsOfChanges_4 : decode cX10_secondsOfChanges 4 = .ok (.iload_n 2, 1) := by decide +kernel
theorem dX10_secondsOfChanges_5 : decode cX10_secondsOfChanges 5 = .ok (.aload_n 0, 1) := by decide +kernel
theorem dX10_secondsOfChanges_6 : decode cX10_secondsOfChanges 6 = .ok (.getfield 12, 3) := by decide +kernel
theorem dX10_secondsOfChanges_9 : decode cX10_secondsOfChanges 9 = .ok (.getfield 49, 3) := by decide +kernel
theorem dX10_secondsOfChanges_12 : decode cX10_secondsOfChanges 12 = .ok (.if_icmp .ge 32, 3) := by decide +kernel
theorem dX10_secondsOfChanges_15 : decode cX10_secondsOfChanges 15 = .ok (.aload_n 0, 1) := by decide +kernel
theorem dX10_secondsOfChanges_16 : decode cX10_secondsOfChanges 16 = .ok (.getfield 12, 3) := by decide +kernel
theorem dX10_secondsOfChanges_19 : decode cX10_secondsOfChanges 19 = .ok (.getfield 65, 3) := by decide +kernel
theorem dX10_secondsOfChanges_22 : decode cX10_secondsOfChanges 22 = .ok (.iload_n 2, 1) := by decide +kernel
theorem dX10_secondsOfChanges_23 : decode cX10_secondsOfChanges 23 = .ok (.iaload, 1) := by decide +kernel
theorem dX10_secondsOfChanges_24 : decode cX10_secondsOfChanges 24 = .ok (.bipush 6, 2) := by decide +kernel
theorem dX10_secondsOfChanges_26 : decode cX10_secondsOfChanges 26 = .ok (.if_icmp .ne 12, 3) := by decide +kernel
theorem dX10_secondsOfChanges_29 : decode cX10_secondsOfChanges 29 = .ok (.iload_n 1, 1) := by decide +kernel
theorem dX10_secondsOfChanges_30 : decode cX10_secondsOfChanges 30 = .ok (.aload_n 0, 1) := by decide +kernel
theorem dX10_secondsOfChanges_31 : decode cX10_secondsOfChanges 31 = .ok (.getfield 29, 3) := by decide +kernel
theorem dX10_secondsOfChanges_34 : decode cX10_secondsOfChanges 34 = .ok (.iload_n 2, 1) := by decide +kernel
theorem dX10_secondsOfChanges_35 : decode cX10_secondsOfChanges 35 = .ok (.iaload, 1) := by decide +kernel
theorem dX10_secondsOfChanges_36 : decode cX10_secondsOfChanges 36 = .ok (.iadd, 1) := by decide +kernel
theorem dX10_secondsOfChanges_37 : decode cX10_secondsOfChanges 37 = .ok (.istore_n 1, 1) := by decide +kernel
theorem dX10_secondsOfChanges_38 : decode cX10_secondsOfChanges 38 = .ok (.iinc 2 1, 3) := by decide +kernel
theorem dX10_secondsOfChanges_41 : decode cX10_secondsOfChanges 41 = .ok (.goto (-37), 3) := by decide +kernel
theorem dX10_secondsOfChanges_44 : decode cX10_secondsOfChanges 44 = .ok (.iload_n 1, 1) := by decide +kernel
theorem dX10_secondsOfChanges_45 : decode cX10_secondsOfChanges 45 = .ok (.ireturn, 1) := by decide +kernel
