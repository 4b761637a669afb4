theorem dX3_payoff_0 : decode cX3_payoff 0 = .ok (.iload_n 1, 1) := by decide +kernel
theorem dX3_payoff_1 : decode cX3_payoff 1 = .ok (.ifCond .eq 14, 3) := by decide +kernel
theorem dX3_payoff_4 : decode cX3_payoff 4 = .ok (.iload_n 2, 1) := by decide +kernel
theorem dX3_payoff_5 : decode cX3_payoff 5 = .ok (.ifCond .eq 8, 3) := by decide +kernel
theorem dX3_payoff_8 : decode cX3_payoff 8 = .ok (.iload_n 0, 1) := by decide +kernel
theorem dX3_payoff_9 : decode cX3_payoff 9 = .ok (.ineg, 1) := by decide +kernel
theorem dX3_payoff_10 : decode cX3_payoff 10 = .ok (.goto 4, 3) := by decide +kernel
theorem dX3_payoff_13 : decode cX3_payoff 13 = .ok (.iconst 4, 1) := by decide +kernel
theorem dX3_payoff_14 : decode cX3_payoff 14 = .ok (.ireturn, 1) := by decide +kernel
theorem dX3_payoff_15 : decode cX3_payoff 15 = .ok (.iload_n 2, 1) := by decide +kernel
theorem dX3_payoff_16 : decode cX3_payoff 16 = .ok (.ifCond .eq 7, 3) := by decide +kernel
theorem dX3_payoff_19 : decode cX3_payoff 19 = .ok (.iconst 1, 1) := by decide +kernel
theorem dX3_payoff_20 : decode cX3_payoff 20 = .ok (.goto 4, 3) := by decide +kernel
theorem dX3_payoff_23 : decode cX3_payoff 23 = .ok (.iconst 2, 1) := by decide +kernel
theorem dX3_payoff_24 : decode cX3_payoff 24 = .ok (.ireturn, 1) := by decide +kernel
theorem dX3_oneWaits_0 : decode cX3_oneWaits 0 = .ok (.iload_n 0, 1) := by decide +kernel
theorem dX3_oneWaits_1 : decode cX3_oneWaits 1 = .ok (.iconst 2, 1) := by decide +kernel
theorem dX3_oneWaits_2 : decode cX3_oneWaits 2 = .ok (.if_icmp .lt 7, 3) := by decide +kernel
theorem dX3_oneWaits_5 : decode cX3_oneWaits 5 = .ok (.iconst 1, 1) := by decide +kernel
theorem dX3_oneWaits_6 : decode cX3_oneWaits 6 = .ok (.goto 4, 3) := by decide +kernel
theorem dX3_oneWaits_9 : decode cX3_oneWaits 9 = .ok (.iconst 0, 1) := by decide +kernel
theorem dX3_oneWaits_10 : decode cX3_oneWaits 10 = .ok (.ireturn, 1) := by decide +kernel
theorem dX3_otherWaits_0 : decode cX3_otherWaits 0 = .ok (.iload_n 0, 1) := by decide +kernel
theorem dX3_otherWaits_1 : decode cX3_otherWaits 1 = .ok (.iconst 1, 1) := by decide +kernel
theorem dX3_otherWaits_2 : decode cX3_otherWaits 2 = .ok (.iand, 1) := by decide +kernel
theorem dX3_otherWaits_3 : decode cX3_otherWaits 3 = .ok (.ifCond .eq 7, 3) := by decide +kernel
theorem dX3_otherWaits_6 : decode cX3_otherWaits 6 = .ok (.iconst 1, 1) := by decide +kernel
theorem dX3_otherWaits_7 : decode cX3_otherWaits 7 = .ok (.goto 4, 3) := by decide +kernel
theorem dX3_otherWaits_10 : decode cX3_otherWaits 10 = .ok (.iconst 0, 1) := by decide +kernel
theorem dX3_otherWaits_11 : decode cX3_otherWaits 11 = .ok (.ireturn, 1) := by decide +kernel
theorem dX3_isRest_0 : decode cX3_isRest 0 = .ok (.iload_n 1, 1) := by decide +kernel
theorem dX3_isRest_1 : decode cX3_isRest 1 = .ok (.invokestatic 11, 3) := by decide +kernel
theorem dX3_isRest_4 : decode cX3_isRest 4 = .ok (.istore_n 2, 1) := by decide +kernel
theorem dX3_isRest_5 : decode cX3_isRest 5 = .ok (.iload_n 1, 1) := by decide +kernel
theorem dX3_isRest_6 : decode cX3_isRest 6 = .ok (.invokestatic 15, 3) := by decide +kernel
theorem dX3_isRest_9 : decode cX3_isRest 9 = .ok (.istore_n 3, 1) := by decide +kernel
theorem dX3_isRest_10 : decode cX3_isRest 10 = .ok (.iload_n 0, 1) := by decide +kernel
theorem dX3_isRest_11 : decode cX3_isRest 11 = .ok (.iload_n 2, 1) := by decide +kernel
theorem dX3_isRest_12 : decode cX3_isRest 12 = .ok (.ifCond .ne 7, 3) := by decide +kernel
theorem dX3_isRest_15 : decode cX3_isRest 15 = .ok (.iconst 1, 1) := by decide +kernel
theorem dX3_isRest_16 : decode cX3_isRest 16 = .ok (.goto 4, 3) := by decide +kernel
theorem dX3_isRest_19 : decode cX3_isRest 19 = .ok (.iconst 0, 1) := by decide +kernel
theorem dX3_isRest_20 : decode cX3_isRest 20 = .ok (.iload_n 3, 1) := by decide +kernel
theorem dX3_isRest_21 : decode cX3_isRest 21 = .ok (.invokestatic 18, 3) := by decide +kernel
theorem dX3_isRest_24 : decode cX3_isRest 24 = .ok (.iload_n 0, 1) := by decide +kernel
theorem dX3_isRest_25 : decode cX3_isRest 25 = .ok (.iload_n 2, 1) := by decide +kernel
theorem dX3_isRest_26 : decode cX3_isRest 26 = .ok (.iload_n 3, 1) := by decide +kernel
theorem dX3_isRest_27 : decode cX3_isRest 27 = .ok (.invokestatic 18, 3) := by decide +kernel
theorem dX3_isRest_30 : decode cX3_isRest 30 = .ok (.if_icmp .gt 30, 3) := by decide +kernel
theorem dX3_isRest_33 : decode cX3_isRest 33 = .ok (.iload_n 0, 1) := by decide +kernel
theorem dX3_isRest_34 : decode cX3_isRest 34 = .ok (.iload_n 3, 1) := by decide +kernel
theorem dX3_isRest_35 : decode cX3_isRest 35 = .ok (.ifCond .ne 7, 3) := by decide +kernel
theorem dX3_isRest_38 : decode cX3_isRest 38 = .ok (.iconst 1, 1) := by decide +kernel
theorem dX3_isRest_39 : decode cX3_isRest 39 = .ok (.goto 4, 3) := by decide +kernel
theorem dX3_isRest_42 : decode cX3_isRest 42 = .ok (.iconst 0, 1) := by decide +kernel
theorem dX3_isRest_43 : decode cX3_isRest 43 = .ok (.iload_n 2, 1) := by decide +kernel
theorem dX3_isRest_44 : decode cX3_isRest 44 = .ok (.invokestatic 18, 3) := by decide +kernel
theorem dX3_isRest_47 : decode cX3_isRest 47 = .ok (.iload_n 0, 1) := by decide +kernel
theorem dX3_isRest_48 : decode cX3_isRest 48 = .ok (.iload_n 3, 1) := by decide +kernel
theorem dX3_isRest_49 : decode cX3_isRest 49 = .ok (.iload_n 2, 1) := by decide +kernel
theorem dX3_isRest_50 : decode cX3_isRest 50 = .ok (.invokestatic 18, 3) := by decide +kernel
theorem dX3_isRest_53 : decode cX3_isRest 53 = .ok (.if_icmp .gt 7, 3) := by decide +kernel
theorem dX3_isRest_56 : decode cX3_isRest 56 = .ok (.iconst 1, 1) := by decide +kernel
theorem dX3_isRest_57 : decode cX3_isRest 57 = .ok (.goto 4, 3) := by decide +kernel
theorem dX3_isRest_60 : decode cX3_isRest 60 = .ok (.iconst 0, 1) := by decide +kernel
theorem dX3_isRest_61 : decode cX3_isRest 61 = .ok (.ireturn, 1) := by decide +kernel
theorem dX3_countRests_0 : decode cX3_countRests 0 = .ok (.iconst 0, 1) := by decide +kernel
theorem dX3_countRests_1 : decode cX3_countRests 1 = .ok (.istore_n 1, 1) := by decide +kernel
theorem dX3_countRests_2 : decode cX3_countRests 2 = .ok (.iconst 0, 1) := by decide +kernel
theorem dX3_countRests_3 : decode cX3_countRests 3 = .ok (.istore_n 2, 1) := by decide +kernel
theorem dX3_countRests_4 : decode cX3_countRests 4 = .ok (.iload_n 2, 1) := by decide +kernel
theorem dX3_countRests_5 : decode cX3_countRests 5 = .ok (.iconst 4, 1) := by decide +kernel
theorem dX3_countRests_6 : decode cX3_countRests 6 = .ok (.if_icmp .ge 20, 3) := by decide +kernel
theorem dX3_countRests_9 : decode cX3_countRests 9 = .ok (.iload_n 0, 1) := by decide +kernel
theorem dX3_countRests_10 : decode cX3_countRests 10 = .ok (.iload_n 2, 1) := by decide +kernel
theorem dX3_countRests_11 : decode cX3_countRests 11 = .ok (.invokestatic 22, 3) := by decide +kernel
theorem dX3_countRests_14 : decode cX3_countRests 14 = .ok (.ifCond .eq 6, 3) := by decide +kernel
theorem dX3_countRests_17 : decode cX3_countRests 17 = .ok (.iinc 1 1, 3) := by decide +kernel
theorem dX3_countRests_20 : decode cX3_countRests 20 = .ok (.iinc 2 1, 3) := by decide +kernel
theorem dX3_countRests_23 : decode cX3_countRests 23 = .ok (.goto (-19), 3) := by decide +kernel
theorem dX3_countRests_26 : decode cX3_countRests 26 = .ok (.iload_n 1, 1) := by decide +kernel
theorem dX3_countRests_27 : decode cX3_countRests 27 = .ok (.ireturn, 1) := by decide +kernel
theorem dX3_firstRest_0 : decode cX3_firstRest 0 = .ok (.iconst 0, 1) := by decide +kernel
theorem dX3_firstRest_1 : decode cX3_firstRest 1 = .ok (.istore_n 1, 1) := by decide +kernel
theorem dX3_firstRest_2 : decode cX3_firstRest 2 = .ok (.iload_n 1, 1) := by decide +kernel
theorem dX3_firstRest_3 : decode cX3_firstRest 3 = .ok (.iconst 4, 1) := by decide +kernel
theorem dX3_firstRest_4 : decode cX3_firstRest 4 = .ok (.if_icmp .ge 44, 3) := by decide +kernel
theorem dX3_firstRest_7 : decode cX3_firstRest 7 = .ok (.iload_n 0, 1) := by decide +kernel
theorem dX3_firstRest_8 : decode cX3_firstRest 8 = .ok (.iload_n 1, 1) := by decide +kernel
theorem dX3_firstRest_9 : decode cX3_firstRest 9 = .ok (.invokestatic 22, 3) := by decide +kernel
theorem dX3_firstRest_12 : decode cX3_firstRest 12 = .ok (.ifCond .eq 30, 3) := by decide +kernel
theorem dX3_firstRest_15 : decode cX3_firstRest 15 = .ok (.iload_n 1, 1) := by decide +kernel
theorem dX3_firstRest_16 : decode cX3_firstRest 16 = .ok (.invokestatic 11, 3) := by decide +kernel
theorem dX3_firstRest_19 : decode cX3_firstRest 19 = .ok (.ifCond .eq 8, 3) := by decide +kernel
theorem dX3_firstRest_22 : decode cX3_firstRest 22 = .ok (.bipush 10, 2) := by decide +kernel
theorem dX3_firstRest_24 : decode cX3_firstRest 24 = .ok (.goto 4, 3) := by decide +kernel
theorem dX3_firstRest_27 : decode cX3_firstRest 27 = .ok (.iconst 0, 1) := by decide +kernel
theorem dX3_firstRest_28 : decode cX3_firstRest 28 = .ok (.iload_n 1, 1) := by decide +kernel
theorem dX3_firstRest_29 : decode cX3_firstRest 29 = .ok (.invokestatic 15, 3) := by decide +kernel
theorem dX3_firstRest_32 : decode cX3_firstRest 32 = .ok (.ifCond .eq 7, 3) := by decide +kernel
theorem dX3_firstRest_35 : decode cX3_firstRest 35 = .ok (.iconst 1, 1) := by decide +kernel
theorem dX3_firstRest_36 : decode cX3_firstRest 36 = .ok (.goto 4, 3) := by decide +kernel
theorem dX3_firstRest_39 : decode cX3_firstRest 39 = .ok (.iconst 0, 1) := by decide +kernel
theorem dX3_firstRest_40 : decode cX3_firstRest 40 = .ok (.iadd, 1) := by decide +kernel
theorem dX3_firstRest_41 : decode cX3_firstRest 41 = .ok (.ireturn, 1) := by decide +kernel
theorem dX3_firstRest_42 : decode cX3_firstRest 42 = .ok (.iinc 1 1, 3) := by decide +kernel
theorem dX3_firstRest_45 : decode cX3_firstRest 45 = .ok (.goto (-43), 3) := by decide +kernel
theorem dX3_firstRest_48 : decode cX3_firstRest 48 = .ok (.bipush (-2), 2) := by decide +kernel
theorem dX3_firstRest_50 : decode cX3_firstRest 50 = .ok (.ireturn, 1) := by decide +kernel
