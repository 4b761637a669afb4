theorem dX1_uncertain_0 : decode cX1_uncertain 0 = .ok (.iconst 0, 1) := by decide +kernel
theorem dX1_uncertain_1 : decode cX1_uncertain 1 = .ok (.istore_n 1, 1) := by decide +kernel
theorem dX1_uncertain_2 : decode cX1_uncertain 2 = .ok (.iconst 0, 1) := by decide +kernel
theorem dX1_uncertain_3 : decode cX1_uncertain 3 = .ok (.istore_n 2, 1) := by decide +kernel
theorem dX1_uncertain_4 : decode cX1_uncertain 4 = .ok (.iload_n 2, 1) := by decide +kernel
theorem dX1_uncertain_5 : decode cX1_uncertain 5 = .ok (.bipush 6, 2) := by decide +kernel
theorem dX1_uncertain_7 : decode cX1_uncertain 7 = .ok (.if_icmp .ge 31, 3) := by decide +kernel
theorem dX1_uncertain_10 : decode cX1_uncertain 10 = .ok (.aload_n 0, 1) := by decide +kernel
theorem dX1_uncertain_11 : decode cX1_uncertain 11 = .ok (.iload_n 2, 1) := by decide +kernel
theorem dX1_uncertain_12 : decode cX1_uncertain 12 = .ok (.invokevirtual 9, 3) := by decide +kernel
theorem dX1_uncertain_15 : decode cX1_uncertain 15 = .ok (.ifCond .eq 17, 3) := by decide +kernel
theorem dX1_uncertain_18 : decode cX1_uncertain 18 = .ok (.aload_n 0, 1) := by decide +kernel
theorem dX1_uncertain_19 : decode cX1_uncertain 19 = .ok (.iload_n 2, 1) := by decide +kernel
theorem dX1_uncertain_20 : decode cX1_uncertain 20 = .ok (.invokevirtual 15, 3) := by decide +kernel
theorem dX1_uncertain_23 : decode cX1_uncertain 23 = .ok (.ifCond .ne 9, 3) := by decide +kernel
theorem dX1_uncertain_26 : decode cX1_uncertain 26 = .ok (.iload_n 1, 1) := by decide +kernel
theorem dX1_uncertain_27 : decode cX1_uncertain 27 = .ok (.iconst 1, 1) := by decide +kernel
theorem dX1_uncertain_28 : decode cX1_uncertain 28 = .ok (.iload_n 2, 1) := by decide +kernel
theorem dX1_uncertain_29 : decode cX1_uncertain 29 = .ok (.ishl, 1) := by decide +kernel
theorem dX1_uncertain_30 : decode cX1_uncertain 30 = .ok (.ior, 1) := by decide +kernel
theorem dX1_uncertain_31 : decode cX1_uncertain 31 = .ok (.istore_n 1, 1) := by decide +kernel
theorem dX1_uncertain_32 : decode cX1_uncertain 32 = .ok (.iinc 2 1, 3) := by decide +kernel
theorem dX1_uncertain_35 : decode cX1_uncertain 35 = .ok (.goto (-31), 3) := by decide +kernel
theorem dX1_uncertain_38 : decode cX1_uncertain 38 = .ok (.iload_n 1, 1) := by decide +kernel
theorem dX1_uncertain_39 : decode cX1_uncertain 39 = .ok (.ireturn, 1) := by decide +kernel
theorem dX1_wholeWeight_0 : decode cX1_wholeWeight 0 = .ok (.aload_n 0, 1) := by decide +kernel
theorem dX1_wholeWeight_1 : decode cX1_wholeWeight 1 = .ok (.invokestatic 18, 3) := by decide +kernel
theorem dX1_wholeWeight_4 : decode cX1_wholeWeight 4 = .ok (.istore_n 1, 1) := by decide +kernel
theorem dX1_wholeWeight_5 : decode cX1_wholeWeight 5 = .ok (.lconst 1, 1) := by decide +kernel
theorem dX1_wholeWeight_6 : decode cX1_wholeWeight 6 = .ok (.lstore_n 2, 1) := by decide +kernel
theorem dX1_wholeWeight_7 : decode cX1_wholeWeight 7 = .ok (.iconst 0, 1) := by decide +kernel
theorem dX1_wholeWeight_8 : decode cX1_wholeWeight 8 = .ok (.istore 4, 2) := by decide +kernel
theorem dX1_wholeWeight_10 : decode cX1_wholeWeight 10 = .ok (.iload 4, 2) := by decide +kernel
theorem dX1_wholeWeight_12 : decode cX1_wholeWeight 12 = .ok (.bipush 6, 2) := by decide +kernel
theorem dX1_wholeWeight_14 : decode cX1_wholeWeight 14 = .ok (.if_icmp .ge 24, 3) := by decide +kernel
theorem dX1_wholeWeight_17 : decode cX1_wholeWeight 17 = .ok (.iload_n 1, 1) := by decide +kernel
theorem dX1_wholeWeight_18 : decode cX1_wholeWeight 18 = .ok (.iload 4, 2) := by decide +kernel
theorem dX1_wholeWeight_20 : decode cX1_wholeWeight 20 = .ok (.ishr, 1) := by decide +kernel
theorem dX1_wholeWeight_21 : decode cX1_wholeWeight 21 = .ok (.iconst 1, 1) := by decide +kernel
theorem dX1_wholeWeight_22 : decode cX1_wholeWeight 22 = .ok (.iand, 1) := by decide +kernel
theorem dX1_wholeWeight_23 : decode cX1_wholeWeight 23 = .ok (.ifCond .eq 9, 3) := by decide +kernel
theorem dX1_wholeWeight_26 : decode cX1_wholeWeight 26 = .ok (.lload_n 2, 1) := by decide +kernel
theorem dX1_wholeWeight_27 : decode cX1_wholeWeight 27 = .ok (.ldc2_w 24, 3) := by decide +kernel
theorem dX1_wholeWeight_30 : decode cX1_wholeWeight 30 = .ok (.lmul, 1) := by decide +kernel
theorem dX1_wholeWeight_31 : decode cX1_wholeWeight 31 = .ok (.lstore_n 2, 1) := by decide +kernel
theorem dX1_wholeWeight_32 : decode cX1_wholeWeight 32 = .ok (.iinc 4 1, 3) := by decide +kernel
theorem dX1_wholeWeight_35 : decode cX1_wholeWeight 35 = .ok (.goto (-25), 3) := by decide +kernel
theorem dX1_wholeWeight_38 : decode cX1_wholeWeight 38 = .ok (.lload_n 2, 1) := by decide +kernel
theorem dX1_wholeWeight_39 : decode cX1_wholeWeight 39 = .ok (.lreturn, 1) := by decide +kernel
theorem dX1_weightOf_0 : decode cX1_weightOf 0 = .ok (.lconst 1, 1) := by decide +kernel
theorem dX1_weightOf_1 : decode cX1_weightOf 1 = .ok (.lstore_n 3, 1) := by decide +kernel
theorem dX1_weightOf_2 : decode cX1_weightOf 2 = .ok (.iconst 0, 1) := by decide +kernel
theorem dX1_weightOf_3 : decode cX1_weightOf 3 = .ok (.istore 5, 2) := by decide +kernel
theorem dX1_weightOf_5 : decode cX1_weightOf 5 = .ok (.iload 5, 2) := by decide +kernel
theorem dX1_weightOf_7 : decode cX1_weightOf 7 = .ok (.bipush 6, 2) := by decide +kernel
theorem dX1_weightOf_9 : decode cX1_weightOf 9 = .ok (.if_icmp .ge 46, 3) := by decide +kernel
theorem dX1_weightOf_12 : decode cX1_weightOf 12 = .ok (.iload_n 1, 1) := by decide +kernel
theorem dX1_weightOf_13 : decode cX1_weightOf 13 = .ok (.iload 5, 2) := by decide +kernel
theorem dX1_weightOf_15 : decode cX1_weightOf 15 = .ok (.ishr, 1) := by decide +kernel
theorem dX1_weightOf_16 : decode cX1_weightOf 16 = .ok (.iconst 1, 1) := by decide +kernel
theorem dX1_weightOf_17 : decode cX1_weightOf 17 = .ok (.iand, 1) := by decide +kernel
theorem dX1_weightOf_18 : decode cX1_weightOf 18 = .ok (.ifCond .eq 31, 3) := by decide +kernel
theorem dX1_weightOf_21 : decode cX1_weightOf 21 = .ok (.lload_n 3, 1) := by decide +kernel
theorem dX1_weightOf_22 : decode cX1_weightOf 22 = .ok (.iload_n 2, 1) := by decide +kernel
theorem dX1_weightOf_23 : decode cX1_weightOf 23 = .ok (.iload 5, 2) := by decide +kernel
theorem dX1_weightOf_25 : decode cX1_weightOf 25 = .ok (.ishr, 1) := by decide +kernel
theorem dX1_weightOf_26 : decode cX1_weightOf 26 = .ok (.iconst 1, 1) := by decide +kernel
theorem dX1_weightOf_27 : decode cX1_weightOf 27 = .ok (.iand, 1) := by decide +kernel
theorem dX1_weightOf_28 : decode cX1_weightOf 28 = .ok (.ifCond .eq 14, 3) := by decide +kernel
theorem dX1_weightOf_31 : decode cX1_weightOf 31 = .ok (.bipush 100, 2) := by decide +kernel
theorem dX1_weightOf_33 : decode cX1_weightOf 33 = .ok (.aload_n 0, 1) := by decide +kernel
theorem dX1_weightOf_34 : decode cX1_weightOf 34 = .ok (.getfield 26, 3) := by decide +kernel
theorem dX1_weightOf_37 : decode cX1_weightOf 37 = .ok (.isub, 1) := by decide +kernel
theorem dX1_weightOf_38 : decode cX1_weightOf 38 = .ok (.i2l, 1) := by decide +kernel
theorem dX1_weightOf_39 : decode cX1_weightOf 39 = .ok (.goto 8, 3) := by decide +kernel
theorem dX1_weightOf_42 : decode cX1_weightOf 42 = .ok (.aload_n 0, 1) := by decide +kernel
theorem dX1_weightOf_43 : decode cX1_weightOf 43 = .ok (.getfield 26, 3) := by decide +kernel
theorem dX1_weightOf_46 : decode cX1_weightOf 46 = .ok (.i2l, 1) := by decide +kernel
theorem dX1_weightOf_47 : decode cX1_weightOf 47 = .ok (.lmul, 1) := by decide +kernel
theorem dX1_weightOf_48 : decode cX1_weightOf 48 = .ok (.lstore_n 3, 1) := by decide +kernel
theorem dX1_weightOf_49 : decode cX1_weightOf 49 = .ok (.iinc 5 1, 3) := by decide +kernel
theorem dX1_weightOf_52 : decode cX1_weightOf 52 = .ok (.goto (-47), 3) := by decide +kernel
theorem dX1_weightOf_55 : decode cX1_weightOf 55 = .ok (.lload_n 3, 1) := by decide +kernel
theorem dX1_weightOf_56 : decode cX1_weightOf 56 = .ok (.lreturn, 1) := by decide +kernel
theorem dX1_stampsOf_0 : decode cX1_stampsOf 0 = .ok (.lconst 0, 1) := by decide +kernel
theorem dX1_stampsOf_1 : decode cX1_stampsOf 1 = .ok (.lstore_n 2, 1) := by decide +kernel
theorem dX1_stampsOf_2 : decode cX1_stampsOf 2 = .ok (.iconst 0, 1) := by decide +kernel
theorem dX1_stampsOf_3 : decode cX1_stampsOf 3 = .ok (.istore 4, 2) := by decide +kernel
theorem dX1_stampsOf_5 : decode cX1_stampsOf 5 = .ok (.iload 4, 2) := by decide +kernel
theorem dX1_stampsOf_7 : decode cX1_stampsOf 7 = .ok (.bipush 6, 2) := by decide +kernel
theorem dX1_stampsOf_9 : decode cX1_stampsOf 9 = .ok (.if_icmp .ge 30, 3) := by decide +kernel
theorem dX1_stampsOf_12 : decode cX1_stampsOf 12 = .ok (.iload_n 1, 1) := by decide +kernel
theorem dX1_stampsOf_13 : decode cX1_stampsOf 13 = .ok (.iload 4, 2) := by decide +kernel
theorem dX1_stampsOf_15 : decode cX1_stampsOf 15 = .ok (.ishr, 1) := by decide +kernel
theorem dX1_stampsOf_16 : decode cX1_stampsOf 16 = .ok (.iconst 1, 1) := by decide +kernel
theorem dX1_stampsOf_17 : decode cX1_stampsOf 17 = .ok (.iand, 1) := by decide +kernel
theorem dX1_stampsOf_18 : decode cX1_stampsOf 18 = .ok (.ifCond .eq 15, 3) := by decide +kernel
theorem dX1_stampsOf_21 : decode cX1_stampsOf 21 = .ok (.lload_n 2, 1) := by decide +kernel
theorem dX1_stampsOf_22 : decode cX1_stampsOf 22 = .ok (.aload_n 0, 1) := by decide +kernel
theorem dX1_stampsOf_23 : decode cX1_stampsOf 23 = .ok (.iload 4, 2) := by decide +kernel
theorem dX1_stampsOf_25 : decode cX1_stampsOf 25 = .ok (.invokevirtual 30, 3) := by decide +kernel
theorem dX1_stampsOf_28 : decode cX1_stampsOf 28 = .ok (.invokestatic 34, 3) := by decide +kernel
theorem dX1_stampsOf_31 : decode cX1_stampsOf 31 = .ok (.lor, 1) := by decide +kernel
theorem dX1_stampsOf_32 : decode cX1_stampsOf 32 = .ok (.lstore_n 2, 1) := by decide +kernel
theorem dX1_stampsOf_33 : decode cX1_stampsOf 33 = .ok (.iinc 4 1, 3) := by decide +kernel
theorem dX1_stampsOf_36 : decode cX1_stampsOf 36 = .ok (.goto (-31), 3) := by decide +kernel
theorem dX1_stampsOf_39 : decode cX1_stampsOf 39 = .ok (.lload_n 2, 1) := by decide +kernel
theorem dX1_stampsOf_40 : decode cX1_stampsOf 40 = .ok (.lreturn, 1) := by decide +kernel
theorem dX1_weightOfValue_0 : decode cX1_weightOfValue 0 = .ok (.aload_n 0, 1) := by decide +kernel
theorem dX1_weightOfValue_1 : decode cX1_weightOfValue 1 = .ok (.invokestatic 18, 3) := by decide +kernel
theorem dX1_weightOfValue_4 : decode cX1_weightOfValue 4 = .ok (.istore_n 3, 1) := by decide +kernel
theorem dX1_weightOfValue_5 : decode cX1_weightOfValue 5 = .ok (.aload_n 0, 1) := by decide +kernel
theorem dX1_weightOfValue_6 : decode cX1_weightOfValue 6 = .ok (.invokevirtual 38, 3) := by decide +kernel
theorem dX1_weightOfValue_9 : decode cX1_weightOfValue 9 = .ok (.lstore 4, 2) := by decide +kernel
theorem dX1_weightOfValue_11 : decode cX1_weightOfValue 11 = .ok (.lconst 0, 1) := by decide +kernel
theorem dX1_weightOfValue_12 : decode cX1_weightOfValue 12 = .ok (.lstore 6, 2) := by decide +kernel
theorem dX1_weightOfValue_14 : decode cX1_weightOfValue 14 = .ok (.iconst 0, 1) := by decide +kernel
theorem dX1_weightOfValue_15 : decode cX1_weightOfValue 15 = .ok (.istore 8, 2) := by decide +kernel
theorem dX1_weightOfValue_17 : decode cX1_weightOfValue 17 = .ok (.iload 8, 2) := by decide +kernel
theorem dX1_weightOfValue_19 : decode cX1_weightOfValue 19 = .ok (.bipush 64, 2) := by decide +kernel
theorem dX1_weightOfValue_21 : decode cX1_weightOfValue 21 = .ok (.if_icmp .ge 48, 3) := by decide +kernel
theorem dX1_weightOfValue_24 : decode cX1_weightOfValue 24 = .ok (.iload 8, 2) := by decide +kernel
theorem dX1_weightOfValue_26 : decode cX1_weightOfValue 26 = .ok (.iload_n 3, 1) := by decide +kernel
theorem dX1_weightOfValue_27 : decode cX1_weightOfValue 27 = .ok (.iconst (-1), 1) := by decide +kernel
theorem dX1_weightOfValue_28 : decode cX1_weightOfValue 28 = .ok (.ixor, 1) := by decide +kernel
theorem dX1_weightOfValue_29 : decode cX1_weightOfValue 29 = .ok (.iand, 1) := by decide +kernel
theorem dX1_weightOfValue_30 : decode cX1_weightOfValue 30 = .ok (.ifCond .ne 33, 3) := by decide +kernel
theorem dX1_weightOfValue_33 : decode cX1_weightOfValue 33 = .ok (.aload_n 0, 1) := by decide +kernel
theorem dX1_weightOfValue_34 : decode cX1_weightOfValue 34 = .ok (.iload_n 1, 1) := by decide +kernel
theorem dX1_weightOfValue_35 : decode cX1_weightOfValue 35 = .ok (.lload 4, 2) := by decide +kernel
theorem dX1_weightOfValue_37 : decode cX1_weightOfValue 37 = .ok (.aload_n 0, 1) := by decide +kernel
theorem dX1_weightOfValue_38 : decode cX1_weightOfValue 38 = .ok (.iload 8, 2) := by decide +kernel
theorem dX1_weightOfValue_40 : decode cX1_weightOfValue 40 = .ok (.invokestatic 42, 3) := by decide +kernel
theorem dX1_weightOfValue_43 : decode cX1_weightOfValue 43 = .ok (.lor, 1) := by decide +kernel
theorem dX1_weightOfValue_44 : decode cX1_weightOfValue 44 = .ok (.invokevirtual 46, 3) := by decide +kernel
theorem dX1_weightOfValue_47 : decode cX1_weightOfValue 47 = .ok (.iload_n 2, 1) := by decide +kernel
theorem dX1_weightOfValue_48 : decode cX1_weightOfValue 48 = .ok (.if_icmp .ne 15, 3) := by decide +kernel
theorem dX1_weightOfValue_51 : decode cX1_weightOfValue 51 = .ok (.lload 6, 2) := by decide +kernel
theorem dX1_weightOfValue_53 : decode cX1_weightOfValue 53 = .ok (.aload_n 0, 1) := by decide +kernel
theorem dX1_weightOfValue_54 : decode cX1_weightOfValue 54 = .ok (.iload_n 3, 1) := by decide +kernel
theorem dX1_weightOfValue_55 : decode cX1_weightOfValue 55 = .ok (.iload 8, 2) := by decide +kernel
theorem dX1_weightOfValue_57 : decode cX1_weightOfValue 57 = .ok (.invokestatic 50, 3) := by decide +kernel
theorem dX1_weightOfValue_60 : decode cX1_weightOfValue 60 = .ok (.ladd, 1) := by decide +kernel
theorem dX1_weightOfValue_61 : decode cX1_weightOfValue 61 = .ok (.lstore 6, 2) := by decide +kernel
theorem dX1_weightOfValue_63 : decode cX1_weightOfValue 63 = .ok (.iinc 8 1, 3) := by decide +kernel
theorem dX1_weightOfValue_66 : decode cX1_weightOfValue 66 = .ok (.goto (-49), 3) := by decide +kernel
theorem dX1_weightOfValue_69 : decode cX1_weightOfValue 69 = .ok (.lload 6, 2) := by decide +kernel
theorem dX1_weightOfValue_71 : decode cX1_weightOfValue 71 = .ok (.lreturn, 1) := by decide +kernel
theorem dX1_weightedSum_0 : decode cX1_weightedSum 0 = .ok (.aload_n 0, 1) := by decide +kernel
theorem dX1_weightedSum_1 : decode cX1_weightedSum 1 = .ok (.invokestatic 18, 3) := by decide +kernel
theorem dX1_weightedSum_4 : decode cX1_weightedSum 4 = .ok (.istore_n 1, 1) := by decide +kernel
theorem dX1_weightedSum_5 : decode cX1_weightedSum 5 = .ok (.aload_n 0, 1) := by decide +kernel
theorem dX1_weightedSum_6 : decode cX1_weightedSum 6 = .ok (.invokevirtual 38, 3) := by decide +kernel
theorem dX1_weightedSum_9 : decode cX1_weightedSum 9 = .ok (.lstore_n 2, 1) := by decide +kernel
theorem dX1_weightedSum_10 : decode cX1_weightedSum 10 = .ok (.lconst 0, 1) := by decide +kernel
theorem dX1_weightedSum_11 : decode cX1_weightedSum 11 = .ok (.lstore 4, 2) := by decide +kernel
theorem dX1_weightedSum_13 : decode cX1_weightedSum 13 = .ok (.iconst 0, 1) := by decide +kernel
theorem dX1_weightedSum_14 : decode cX1_weightedSum 14 = .ok (.istore 6, 2) := by decide +kernel
theorem dX1_weightedSum_16 : decode cX1_weightedSum 16 = .ok (.iload 6, 2) := by decide +kernel
theorem dX1_weightedSum_18 : decode cX1_weightedSum 18 = .ok (.bipush 64, 2) := by decide +kernel
theorem dX1_weightedSum_20 : decode cX1_weightedSum 20 = .ok (.if_icmp .ge 44, 3) := by decide +kernel
theorem dX1_weightedSum_23 : decode cX1_weightedSum 23 = .ok (.iload 6, 2) := by decide +kernel
theorem dX1_weightedSum_25 : decode cX1_weightedSum 25 = .ok (.iload_n 1, 1) := by decide +kernel
theorem dX1_weightedSum_26 : decode cX1_weightedSum 26 = .ok (.iconst (-1), 1) := by decide +kernel
theorem dX1_weightedSum_27 : decode cX1_weightedSum 27 = .ok (.ixor, 1) := by decide +kernel
theorem dX1_weightedSum_28 : decode cX1_weightedSum 28 = .ok (.iand, 1) := by decide +kernel
theorem dX1_weightedSum_29 : decode cX1_weightedSum 29 = .ok (.ifCond .ne 29, 3) := by decide +kernel
theorem dX1_weightedSum_32 : decode cX1_weightedSum 32 = .ok (.lload 4, 2) := by decide +kernel
theorem dX1_weightedSum_34 : decode cX1_weightedSum 34 = .ok (.aload_n 0, 1) := by decide +kernel
theorem dX1_weightedSum_35 : decode cX1_weightedSum 35 = .ok (.iload_n 1, 1) := by decide +kernel
theorem dX1_weightedSum_36 : decode cX1_weightedSum 36 = .ok (.iload 6, 2) := by decide +kernel
theorem dX1_weightedSum_38 : decode cX1_weightedSum 38 = .ok (.invokestatic 50, 3) := by decide +kernel
theorem dX1_weightedSum_41 : decode cX1_weightedSum 41 = .ok (.aload_n 0, 1) := by decide +kernel
theorem dX1_weightedSum_42 : decode cX1_weightedSum 42 = .ok (.lload_n 2, 1) := by decide +kernel
theorem dX1_weightedSum_43 : decode cX1_weightedSum 43 = .ok (.aload_n 0, 1) := by decide +kernel
theorem dX1_weightedSum_44 : decode cX1_weightedSum 44 = .ok (.iload 6, 2) := by decide +kernel
theorem dX1_weightedSum_46 : decode cX1_weightedSum 46 = .ok (.invokestatic 42, 3) := by decide +kernel
theorem dX1_weightedSum_49 : decode cX1_weightedSum 49 = .ok (.lor, 1) := by decide +kernel
theorem dX1_weightedSum_50 : decode cX1_weightedSum 50 = .ok (.invokevirtual 54, 3) := by decide +kernel
theorem dX1_weightedSum_53 : decode cX1_weightedSum 53 = .ok (.i2l, 1) := by decide +kernel
theorem dX1_weightedSum_54 : decode cX1_weightedSum 54 = .ok (.lmul, 1) := by decide +kernel
theorem dX1_weightedSum_55 : decode cX1_weightedSum 55 = .ok (.ladd, 1) := by decide +kernel
theorem dX1_weightedSum_56 : decode cX1_weightedSum 56 = .ok (.lstore 4, 2) := by decide +kernel
theorem dX1_weightedSum_58 : decode cX1_weightedSum 58 = .ok (.iinc 6 1, 3) := by decide +kernel
theorem dX1_weightedSum_61 : decode cX1_weightedSum 61 = .ok (.goto (-45), 3) := by decide +kernel
theorem dX1_weightedSum_64 : decode cX1_weightedSum 64 = .ok (.lload 4, 2) := by decide +kernel
theorem dX1_weightedSum_66 : decode cX1_weightedSum 66 = .ok (.lreturn, 1) := by decide +kernel
theorem dX1_countingByDraws_0 : decode cX1_countingByDraws 0 = .ok (.aload_n 0, 1) := by decide +kernel
theorem dX1_countingByDraws_1 : decode cX1_countingByDraws 1 = .ok (.invokevirtual 38, 3) := by decide +kernel
theorem dX1_countingByDraws_4 : decode cX1_countingByDraws 4 = .ok (.lstore_n 2, 1) := by decide +kernel
theorem dX1_countingByDraws_5 : decode cX1_countingByDraws 5 = .ok (.iload_n 1, 1) := by decide +kernel
theorem dX1_countingByDraws_6 : decode cX1_countingByDraws 6 = .ok (.istore 4, 2) := by decide +kernel
theorem dX1_countingByDraws_8 : decode cX1_countingByDraws 8 = .ok (.iconst 0, 1) := by decide +kernel
theorem dX1_countingByDraws_9 : decode cX1_countingByDraws 9 = .ok (.istore 5, 2) := by decide +kernel
theorem dX1_countingByDraws_11 : decode cX1_countingByDraws 11 = .ok (.iload 5, 2) := by decide +kernel
theorem dX1_countingByDraws_13 : decode cX1_countingByDraws 13 = .ok (.bipush 6, 2) := by decide +kernel
theorem dX1_countingByDraws_15 : decode cX1_countingByDraws 15 = .ok (.if_icmp .ge 67, 3) := by decide +kernel
theorem dX1_countingByDraws_18 : decode cX1_countingByDraws 18 = .ok (.aload_n 0, 1) := by decide +kernel
theorem dX1_countingByDraws_19 : decode cX1_countingByDraws 19 = .ok (.iload 5, 2) := by decide +kernel
theorem dX1_countingByDraws_21 : decode cX1_countingByDraws 21 = .ok (.invokevirtual 9, 3) := by decide +kernel
theorem dX1_countingByDraws_24 : decode cX1_countingByDraws 24 = .ok (.ifCond .ne 6, 3) := by decide +kernel
theorem dX1_countingByDraws_27 : decode cX1_countingByDraws 27 = .ok (.goto 49, 3) := by decide +kernel
theorem dX1_countingByDraws_30 : decode cX1_countingByDraws 30 = .ok (.bipush 75, 2) := by decide +kernel
theorem dX1_countingByDraws_32 : decode cX1_countingByDraws 32 = .ok (.iload 4, 2) := by decide +kernel
theorem dX1_countingByDraws_34 : decode cX1_countingByDraws 34 = .ok (.imul, 1) := by decide +kernel
theorem dX1_countingByDraws_35 : decode cX1_countingByDraws 35 = .ok (.bipush 74, 2) := by decide +kernel
theorem dX1_countingByDraws_37 : decode cX1_countingByDraws 37 = .ok (.iadd, 1) := by decide +kernel
theorem dX1_countingByDraws_38 : decode cX1_countingByDraws 38 = .ok (.ldc 58, 2) := by decide +kernel
theorem dX1_countingByDraws_40 : decode cX1_countingByDraws 40 = .ok (.irem, 1) := by decide +kernel
theorem dX1_countingByDraws_41 : decode cX1_countingByDraws 41 = .ok (.istore 4, 2) := by decide +kernel
theorem dX1_countingByDraws_43 : decode cX1_countingByDraws 43 = .ok (.iload 4, 2) := by decide +kernel
theorem dX1_countingByDraws_45 : decode cX1_countingByDraws 45 = .ok (.bipush 100, 2) := by decide +kernel
theorem dX1_countingByDraws_47 : decode cX1_countingByDraws 47 = .ok (.irem, 1) := by decide +kernel
theorem dX1_countingByDraws_48 : decode cX1_countingByDraws 48 = .ok (.aload_n 0, 1) := by decide +kernel
theorem dX1_countingByDraws_49 : decode cX1_countingByDraws 49 = .ok (.getfield 26, 3) := by decide +kernel
theorem dX1_countingByDraws_52 : decode cX1_countingByDraws 52 = .ok (.if_icmp .lt 24, 3) := by decide +kernel
theorem dX1_countingByDraws_55 : decode cX1_countingByDraws 55 = .ok (.aload_n 0, 1) := by decide +kernel
theorem dX1_countingByDraws_56 : decode cX1_countingByDraws 56 = .ok (.iload 5, 2) := by decide +kernel
theorem dX1_countingByDraws_58 : decode cX1_countingByDraws 58 = .ok (.invokevirtual 15, 3) := by decide +kernel
theorem dX1_countingByDraws_61 : decode cX1_countingByDraws 61 = .ok (.ifCond .ne 15, 3) := by decide +kernel
theorem dX1_countingByDraws_64 : decode cX1_countingByDraws 64 = .ok (.lload_n 2, 1) := by decide +kernel
theorem dX1_countingByDraws_65 : decode cX1_countingByDraws 65 = .ok (.aload_n 0, 1) := by decide +kernel
theorem dX1_countingByDraws_66 : decode cX1_countingByDraws 66 = .ok (.iload 5, 2) := by decide +kernel
theorem dX1_countingByDraws_68 : decode cX1_countingByDraws 68 = .ok (.invokevirtual 30, 3) := by decide +kernel
theorem dX1_countingByDraws_71 : decode cX1_countingByDraws 71 = .ok (.invokestatic 34, 3) := by decide +kernel
theorem dX1_countingByDraws_74 : decode cX1_countingByDraws 74 = .ok (.lor, 1) := by decide +kernel
theorem dX1_countingByDraws_75 : decode cX1_countingByDraws 75 = .ok (.lstore_n 2, 1) := by decide +kernel
theorem dX1_countingByDraws_76 : decode cX1_countingByDraws 76 = .ok (.iinc 5 1, 3) := by decide +kernel
theorem dX1_countingByDraws_79 : decode cX1_countingByDraws 79 = .ok (.goto (-68), 3) := by decide +kernel
theorem dX1_countingByDraws_82 : decode cX1_countingByDraws 82 = .ok (.lload_n 2, 1) := by decide +kernel
theorem dX1_countingByDraws_83 : decode cX1_countingByDraws 83 = .ok (.lreturn, 1) := by decide +kernel
theorem dX1_inLowestTerms_0 : decode cX1_inLowestTerms 0 = .ok (.lload_n 0, 1) := by decide +kernel
theorem dX1_inLowestTerms_1 : decode cX1_inLowestTerms 1 = .ok (.lload_n 2, 1) := by decide +kernel
theorem dX1_inLowestTerms_2 : decode cX1_inLowestTerms 2 = .ok (.invokestatic 59, 3) := by decide +kernel
theorem dX1_inLowestTerms_5 : decode cX1_inLowestTerms 5 = .ok (.lstore 5, 2) := by decide +kernel
theorem dX1_inLowestTerms_7 : decode cX1_inLowestTerms 7 = .ok (.iload 4, 2) := by decide +kernel
theorem dX1_inLowestTerms_9 : decode cX1_inLowestTerms 9 = .ok (.ifCond .eq 7, 3) := by decide +kernel
theorem dX1_inLowestTerms_12 : decode cX1_inLowestTerms 12 = .ok (.lload_n 2, 1) := by decide +kernel
theorem dX1_inLowestTerms_13 : decode cX1_inLowestTerms 13 = .ok (.goto 4, 3) := by decide +kernel
theorem dX1_inLowestTerms_16 : decode cX1_inLowestTerms 16 = .ok (.lload_n 0, 1) := by decide +kernel
theorem dX1_inLowestTerms_17 : decode cX1_inLowestTerms 17 = .ok (.lstore 7, 2) := by decide +kernel
theorem dX1_inLowestTerms_19 : decode cX1_inLowestTerms 19 = .ok (.lload 5, 2) := by decide +kernel
theorem dX1_inLowestTerms_21 : decode cX1_inLowestTerms 21 = .ok (.lconst 0, 1) := by decide +kernel
theorem dX1_inLowestTerms_22 : decode cX1_inLowestTerms 22 = .ok (.lcmp, 1) := by decide +kernel
theorem dX1_inLowestTerms_23 : decode cX1_inLowestTerms 23 = .ok (.ifCond .le 11, 3) := by decide +kernel
theorem dX1_inLowestTerms_26 : decode cX1_inLowestTerms 26 = .ok (.lload 7, 2) := by decide +kernel
theorem dX1_inLowestTerms_28 : decode cX1_inLowestTerms 28 = .ok (.lload 5, 2) := by decide +kernel
theorem dX1_inLowestTerms_30 : decode cX1_inLowestTerms 30 = .ok (.ldiv, 1) := by decide +kernel
theorem dX1_inLowestTerms_31 : decode cX1_inLowestTerms 31 = .ok (.goto 5, 3) := by decide +kernel
theorem dX1_inLowestTerms_34 : decode cX1_inLowestTerms 34 = .ok (.lload 7, 2) := by decide +kernel
theorem dX1_inLowestTerms_36 : decode cX1_inLowestTerms 36 = .ok (.lreturn, 1) := by decide +kernel
theorem dX1_commonDivisor_0 : decode cX1_commonDivisor 0 = .ok (.lload_n 0, 1) := by decide +kernel
theorem dX1_commonDivisor_1 : decode cX1_commonDivisor 1 = .ok (.lstore 4, 2) := by decide +kernel
theorem dX1_commonDivisor_3 : decode cX1_commonDivisor 3 = .ok (.lload_n 2, 1) := by decide +kernel
theorem dX1_commonDivisor_4 : decode cX1_commonDivisor 4 = .ok (.lstore 6, 2) := by decide +kernel
theorem dX1_commonDivisor_6 : decode cX1_commonDivisor 6 = .ok (.iconst 0, 1) := by decide +kernel
theorem dX1_commonDivisor_7 : decode cX1_commonDivisor 7 = .ok (.istore 8, 2) := by decide +kernel
theorem dX1_commonDivisor_9 : decode cX1_commonDivisor 9 = .ok (.iload 8, 2) := by decide +kernel
theorem dX1_commonDivisor_11 : decode cX1_commonDivisor 11 = .ok (.sipush 200, 3) := by decide +kernel
theorem dX1_commonDivisor_14 : decode cX1_commonDivisor 14 = .ok (.if_icmp .ge 31, 3) := by decide +kernel
theorem dX1_commonDivisor_17 : decode cX1_commonDivisor 17 = .ok (.lload 6, 2) := by decide +kernel
theorem dX1_commonDivisor_19 : decode cX1_commonDivisor 19 = .ok (.lconst 0, 1) := by decide +kernel
theorem dX1_commonDivisor_20 : decode cX1_commonDivisor 20 = .ok (.lcmp, 1) := by decide +kernel
theorem dX1_commonDivisor_21 : decode cX1_commonDivisor 21 = .ok (.ifCond .eq 24, 3) := by decide +kernel
theorem dX1_commonDivisor_24 : decode cX1_commonDivisor 24 = .ok (.lload 4, 2) := by decide +kernel
theorem dX1_commonDivisor_26 : decode cX1_commonDivisor 26 = .ok (.lload 6, 2) := by decide +kernel
theorem dX1_commonDivisor_28 : decode cX1_commonDivisor 28 = .ok (.lrem, 1) := by decide +kernel
theorem dX1_commonDivisor_29 : decode cX1_commonDivisor 29 = .ok (.lstore 9, 2) := by decide +kernel
theorem dX1_commonDivisor_31 : decode cX1_commonDivisor 31 = .ok (.lload 6, 2) := by decide +kernel
theorem dX1_commonDivisor_33 : decode cX1_commonDivisor 33 = .ok (.lstore 4, 2) := by decide +kernel
theorem dX1_commonDivisor_35 : decode cX1_commonDivisor 35 = .ok (.lload 9, 2) := by decide +kernel
theorem dX1_commonDivisor_37 : decode cX1_commonDivisor 37 = .ok (.lstore 6, 2) := by decide +kernel
theorem dX1_commonDivisor_39 : decode cX1_commonDivisor 39 = .ok (.iinc 8 1, 3) := by decide +kernel
theorem dX1_commonDivisor_42 : decode cX1_commonDivisor 42 = .ok (.goto (-33), 3) := by decide +kernel
theorem dX1_commonDivisor_45 : decode cX1_commonDivisor 45 = .ok (.lload 4, 2) := by decide +kernel
theorem dX1_commonDivisor_47 : decode cX1_commonDivisor 47 = .ok (.lreturn, 1) := by decide +kernel
