theorem dX6_madeAt_4 : decode cX6_madeAt 4 = .ok (.iload_n 1, 1) := by decide +kernel
theorem dX6_madeAt_5 : decode cX6_madeAt 5 = .ok (.aload_n 0, 1) := by decide +kernel
theorem dX6_madeAt_6 : decode cX6_madeAt 6 = .ok (.getfield 53, 3) := by decide +kernel
theorem dX6_madeAt_9 : decode cX6_madeAt 9 = .ok (.if_icmp .ge 18, 3) := by decide +kernel
theorem dX6_madeAt_12 : decode cX6_madeAt 12 = .ok (.iload_n 1, 1) := by decide +kernel
theorem dX6_madeAt_13 : decode cX6_madeAt 13 = .ok (.bipush 48, 2) := by decide +kernel
theorem dX6_madeAt_15 : decode cX6_madeAt 15 = .ok (.if_icmp .ge 12, 3) := by decide +kernel
theorem dX6_madeAt_18 : decode cX6_madeAt 18 = .ok (.aload_n 0, 1) := by decide +kernel
theorem dX6_madeAt_19 : decode cX6_madeAt 19 = .ok (.getfield 31, 3) := by decide +kernel
theorem dX6_madeAt_22 : decode cX6_madeAt 22 = .ok (.iload_n 1, 1) := by decide +kernel
theorem dX6_madeAt_23 : decode cX6_madeAt 23 = .ok (.iaload, 1) := by decide +kernel
theorem dX6_madeAt_24 : decode cX6_madeAt 24 = .ok (.goto 5, 3) := by decide +kernel
theorem dX6_madeAt_27 : decode cX6_madeAt 27 = .ok (.bipush (-2), 2) := by decide +kernel
theorem dX6_madeAt_29 : decode cX6_madeAt 29 = .ok (.ireturn, 1) := by decide +kernel
theorem dX6_chainLength_0 : decode cX6_chainLength 0 = .ok (.iconst 0, 1) := by decide +kernel
theorem dX6_chainLength_1 : decode cX6_chainLength 1 = .ok (.istore_n 2, 1) := by decide +kernel
theorem dX6_chainLength_2 : decode cX6_chainLength 2 = .ok (.iconst 0, 1) := by decide +kernel
theorem dX6_chainLength_3 : decode cX6_chainLength 3 = .ok (.istore_n 3, 1) := by decide +kernel
theorem dX6_chainLength_4 : decode cX6_chainLength 4 = .ok (.iload_n 3, 1) := by decide +kernel
theorem dX6_chainLength_5 : decode cX6_chainLength 5 = .ok (.bipush 48, 2) := by decide +kernel
theorem dX6_chainLength_7 : decode cX6_chainLength 7 = .ok (.if_icmp .ge 21, 3) := by decide +kernel
theorem dX6_chainLength_10 : decode cX6_chainLength 10 = .ok (.aload_n 0, 1) := by decide +kernel
theorem dX6_chainLength_11 : decode cX6_chainLength 11 = .ok (.iload_n 3, 1) := by decide +kernel
theorem dX6_chainLength_12 : decode cX6_chainLength 12 = .ok (.invokevirtual 134, 3) := by decide +kernel
theorem dX6_chainLength_15 : decode cX6_chainLength 15 = .ok (.iload_n 1, 1) := by decide +kernel
theorem dX6_chainLength_16 : decode cX6_chainLength 16 = .ok (.if_icmp .ne 6, 3) := by decide +kernel
theorem dX6_chainLength_19 : decode cX6_chainLength 19 = .ok (.iinc 2 1, 3) := by decide +kernel
theorem dX6_chainLength_22 : decode cX6_chainLength 22 = .ok (.iinc 3 1, 3) := by decide +kernel
theorem dX6_chainLength_25 : decode cX6_chainLength 25 = .ok (.goto (-21), 3) := by decide +kernel
theorem dX6_chainLength_28 : decode cX6_chainLength 28 = .ok (.iload_n 2, 1) := by decide +kernel
theorem dX6_chainLength_29 : decode cX6_chainLength 29 = .ok (.ireturn, 1) := by decide +kernel
theorem dX6_versionInChain_0 : decode cX6_versionInChain 0 = .ok (.iconst 0, 1) := by decide +kernel
theorem dX6_versionInChain_1 : decode cX6_versionInChain 1 = .ok (.istore_n 3, 1) := by decide +kernel
theorem dX6_versionInChain_2 : decode cX6_versionInChain 2 = .ok (.iconst 0, 1) := by decide +kernel
theorem dX6_versionInChain_3 : decode cX6_versionInChain 3 = .ok (.istore 4, 2) := by decide +kernel
theorem dX6_versionInChain_5 : decode cX6_versionInChain 5 = .ok (.iload 4, 2) := by decide +kernel
theorem dX6_versionInChain_7 : decode cX6_versionInChain 7 = .ok (.aload_n 0, 1) := by decide +kernel
theorem dX6_versionInChain_8 : decode cX6_versionInChain 8 = .ok (.getfield 53, 3) := by decide +kernel
theorem dX6_versionInChain_11 : decode cX6_versionInChain 11 = .ok (.if_icmp .ge 41, 3) := by decide +kernel
theorem dX6_versionInChain_14 : decode cX6_versionInChain 14 = .ok (.aload_n 0, 1) := by decide +kernel
theorem dX6_versionInChain_15 : decode cX6_versionInChain 15 = .ok (.iload 4, 2) := by decide +kernel
theorem dX6_versionInChain_17 : decode cX6_versionInChain 17 = .ok (.invokevirtual 137, 3) := by decide +kernel
theorem dX6_versionInChain_20 : decode cX6_versionInChain 20 = .ok (.istore 5, 2) := by decide +kernel
theorem dX6_versionInChain_22 : decode cX6_versionInChain 22 = .ok (.aload_n 0, 1) := by decide +kernel
theorem dX6_versionInChain_23 : decode cX6_versionInChain 23 = .ok (.iload 5, 2) := by decide +kernel
theorem dX6_versionInChain_25 : decode cX6_versionInChain 25 = .ok (.invokevirtual 134, 3) := by decide +kernel
theorem dX6_versionInChain_28 : decode cX6_versionInChain 28 = .ok (.iload_n 1, 1) := by decide +kernel
theorem dX6_versionInChain_29 : decode cX6_versionInChain 29 = .ok (.if_icmp .eq 6, 3) := by decide +kernel
theorem dX6_versionInChain_32 : decode cX6_versionInChain 32 = .ok (.goto 14, 3) := by decide +kernel
theorem dX6_versionInChain_35 : decode cX6_versionInChain 35 = .ok (.iload_n 3, 1) := by decide +kernel
theorem dX6_versionInChain_36 : decode cX6_versionInChain 36 = .ok (.iload_n 2, 1) := by decide +kernel
theorem dX6_versionInChain_37 : decode cX6_versionInChain 37 = .ok (.if_icmp .ne 6, 3) := by decide +kernel
theorem dX6_versionInChain_40 : decode cX6_versionInChain 40 = .ok (.iload 5, 2) := by decide +kernel
theorem dX6_versionInChain_42 : decode cX6_versionInChain 42 = .ok (.ireturn, 1) := by decide +kernel
theorem dX6_versionInChain_43 : decode cX6_versionInChain 43 = .ok (.iinc 3 1, 3) := by decide +kernel
theorem dX6_versionInChain_46 : decode cX6_versionInChain 46 = .ok (.iinc 4 1, 3) := by decide +kernel
theorem dX6_versionInChain_49 : decode cX6_versionInChain 49 = .ok (.goto (-44), 3) := by decide +kernel
theorem dX6_versionInChain_52 : decode cX6_versionInChain 52 = .ok (.bipush (-2), 2) := by decide +kernel
theorem dX6_versionInChain_54 : decode cX6_versionInChain 54 = .ok (.ireturn, 1) := by decide +kernel
theorem dX6_isDead_0 : decode cX6_isDead 0 = .ok (.lload_n 2, 1) := by decide +kernel
theorem dX6_isDead_1 : decode cX6_isDead 1 = .ok (.aload_n 0, 1) := by decide +kernel
theorem dX6_isDead_2 : decode cX6_isDead 2 = .ok (.iload_n 1, 1) := by decide +kernel
theorem dX6_isDead_3 : decode cX6_isDead 3 = .ok (.invokevirtual 140, 3) := by decide +kernel
theorem dX6_isDead_6 : decode cX6_isDead 6 = .ok (.invokestatic 78, 3) := by decide +kernel
theorem dX6_isDead_9 : decode cX6_isDead 9 = .ok (.ifCond .ne 16, 3) := by decide +kernel
theorem dX6_isDead_12 : decode cX6_isDead 12 = .ok (.lload 4, 2) := by decide +kernel
theorem dX6_isDead_14 : decode cX6_isDead 14 = .ok (.aload_n 0, 1) := by decide +kernel
theorem dX6_isDead_15 : decode cX6_isDead 15 = .ok (.iload_n 1, 1) := by decide +kernel
theorem dX6_isDead_16 : decode cX6_isDead 16 = .ok (.invokevirtual 143, 3) := by decide +kernel
theorem dX6_isDead_19 : decode cX6_isDead 19 = .ok (.invokestatic 78, 3) := by decide +kernel
theorem dX6_isDead_22 : decode cX6_isDead 22 = .ok (.ifCond .eq 7, 3) := by decide +kernel
theorem dX6_isDead_25 : decode cX6_isDead 25 = .ok (.iconst 1, 1) := by decide +kernel
theorem dX6_isDead_26 : decode cX6_isDead 26 = .ok (.goto 4, 3) := by decide +kernel
theorem dX6_isDead_29 : decode cX6_isDead 29 = .ok (.iconst 0, 1) := by decide +kernel
theorem dX6_isDead_30 : decode cX6_isDead 30 = .ok (.ireturn, 1) := by decide +kernel
theorem dX6_isDeadNow_0 : decode cX6_isDeadNow 0 = .ok (.aload_n 0, 1) := by decide +kernel
theorem dX6_isDeadNow_1 : decode cX6_isDeadNow 1 = .ok (.iload_n 1, 1) := by decide +kernel
theorem dX6_isDeadNow_2 : decode cX6_isDeadNow 2 = .ok (.aload_n 0, 1) := by decide +kernel
theorem dX6_isDeadNow_3 : decode cX6_isDeadNow 3 = .ok (.getfield 66, 3) := by decide +kernel
theorem dX6_isDeadNow_6 : decode cX6_isDeadNow 6 = .ok (.aload_n 0, 1) := by decide +kernel
theorem dX6_isDeadNow_7 : decode cX6_isDeadNow 7 = .ok (.bipush (-2), 2) := by decide +kernel
theorem dX6_isDeadNow_9 : decode cX6_isDeadNow 9 = .ok (.invokevirtual 109, 3) := by decide +kernel
theorem dX6_isDeadNow_12 : decode cX6_isDeadNow 12 = .ok (.invokevirtual 112, 3) := by decide +kernel
theorem dX6_isDeadNow_15 : decode cX6_isDeadNow 15 = .ok (.ireturn, 1) := by decide +kernel
theorem dX6_countDeadWithout_0 : decode cX6_countDeadWithout 0 = .ok (.aload_n 0, 1) := by decide +kernel
theorem dX6_countDeadWithout_1 : decode cX6_countDeadWithout 1 = .ok (.iload_n 1, 1) := by decide +kernel
theorem dX6_countDeadWithout_2 : decode cX6_countDeadWithout 2 = .ok (.invokevirtual 109, 3) := by decide +kernel
theorem dX6_countDeadWithout_5 : decode cX6_countDeadWithout 5 = .ok (.lstore_n 2, 1) := by decide +kernel
theorem dX6_countDeadWithout_6 : decode cX6_countDeadWithout 6 = .ok (.aload_n 0, 1) := by decide +kernel
theorem dX6_countDeadWithout_7 : decode cX6_countDeadWithout 7 = .ok (.getfield 66, 3) := by decide +kernel
theorem dX6_countDeadWithout_10 : decode cX6_countDeadWithout 10 = .ok (.aload_n 0, 1) := by decide +kernel
theorem dX6_countDeadWithout_11 : decode cX6_countDeadWithout 11 = .ok (.iload_n 1, 1) := by decide +kernel
theorem dX6_countDeadWithout_12 : decode cX6_countDeadWithout 12 = .ok (.invokevirtual 146, 3) := by decide +kernel
theorem dX6_countDeadWithout_15 : decode cX6_countDeadWithout 15 = .ok (.invokestatic 106, 3) := by decide +kernel
theorem dX6_countDeadWithout_18 : decode cX6_countDeadWithout 18 = .ok (.lor, 1) := by decide +kernel
theorem dX6_countDeadWithout_19 : decode cX6_countDeadWithout 19 = .ok (.lstore 4, 2) := by decide +kernel
theorem dX6_countDeadWithout_21 : decode cX6_countDeadWithout 21 = .ok (.iconst 0, 1) := by decide +kernel
theorem dX6_countDeadWithout_22 : decode cX6_countDeadWithout 22 = .ok (.istore 6, 2) := by decide +kernel
theorem dX6_countDeadWithout_24 : decode cX6_countDeadWithout 24 = .ok (.iconst 0, 1) := by decide +kernel
theorem dX6_countDeadWithout_25 : decode cX6_countDeadWithout 25 = .ok (.istore 7, 2) := by decide +kernel
theorem dX6_countDeadWithout_27 : decode cX6_countDeadWithout 27 = .ok (.iload 7, 2) := by decide +kernel
theorem dX6_countDeadWithout_29 : decode cX6_countDeadWithout 29 = .ok (.bipush 48, 2) := by decide +kernel
theorem dX6_countDeadWithout_31 : decode cX6_countDeadWithout 31 = .ok (.if_icmp .ge 33, 3) := by decide +kernel
theorem dX6_countDeadWithout_34 : decode cX6_countDeadWithout 34 = .ok (.aload_n 0, 1) := by decide +kernel
theorem dX6_countDeadWithout_35 : decode cX6_countDeadWithout 35 = .ok (.iload 7, 2) := by decide +kernel
theorem dX6_countDeadWithout_37 : decode cX6_countDeadWithout 37 = .ok (.invokevirtual 102, 3) := by decide +kernel
theorem dX6_countDeadWithout_40 : decode cX6_countDeadWithout 40 = .ok (.ifCond .eq 18, 3) := by decide +kernel
theorem dX6_countDeadWithout_43 : decode cX6_countDeadWithout 43 = .ok (.aload_n 0, 1) := by decide +kernel
theorem dX6_countDeadWithout_44 : decode cX6_countDeadWithout 44 = .ok (.iload 7, 2) := by decide +kernel
theorem dX6_countDeadWithout_46 : decode cX6_countDeadWithout 46 = .ok (.lload 4, 2) := by decide +kernel
theorem dX6_countDeadWithout_48 : decode cX6_countDeadWithout 48 = .ok (.lload_n 2, 1) := by decide +kernel
theorem dX6_countDeadWithout_49 : decode cX6_countDeadWithout 49 = .ok (.invokevirtual 112, 3) := by decide +kernel
theorem dX6_countDeadWithout_52 : decode cX6_countDeadWithout 52 = .ok (.ifCond .eq 6, 3) := by decide +kernel
theorem dX6_countDeadWithout_55 : decode cX6_countDeadWithout 55 = .ok (.iinc 6 1, 3) := by decide +kernel
theorem dX6_countDeadWithout_58 : decode cX6_countDeadWithout 58 = .ok (.iinc 7 1, 3) := by decide +kernel
theorem dX6_countDeadWithout_61 : decode cX6_countDeadWithout 61 = .ok (.goto (-34), 3) := by decide +kernel
theorem dX6_countDeadWithout_64 : decode cX6_countDeadWithout 64 = .ok (.iload 6, 2) := by decide +kernel
theorem dX6_countDeadWithout_66 : decode cX6_countDeadWithout 66 = .ok (.ireturn, 1) := by decide +kernel
theorem dX6_wouldFreeze_0 : decode cX6_wouldFreeze 0 = .ok (.aload_n 0, 1) := by decide +kernel
theorem dX6_wouldFreeze_1 : decode cX6_wouldFreeze 1 = .ok (.bipush (-2), 2) := by decide +kernel
theorem dX6_wouldFreeze_3 : decode cX6_wouldFreeze 3 = .ok (.invokevirtual 109, 3) := by decide +kernel
theorem dX6_wouldFreeze_6 : decode cX6_wouldFreeze 6 = .ok (.aload_n 0, 1) := by decide +kernel
theorem dX6_wouldFreeze_7 : decode cX6_wouldFreeze 7 = .ok (.iload_n 1, 1) := by decide +kernel
theorem dX6_wouldFreeze_8 : decode cX6_wouldFreeze 8 = .ok (.invokevirtual 140, 3) := by decide +kernel
theorem dX6_wouldFreeze_11 : decode cX6_wouldFreeze 11 = .ok (.invokestatic 78, 3) := by decide +kernel
theorem dX6_wouldFreeze_14 : decode cX6_wouldFreeze 14 = .ok (.ireturn, 1) := by decide +kernel
theorem dX6_countFreezing_0 : decode cX6_countFreezing 0 = .ok (.aload_n 0, 1) := by decide +kernel
theorem dX6_countFreezing_1 : decode cX6_countFreezing 1 = .ok (.bipush (-2), 2) := by decide +kernel
theorem dX6_countFreezing_3 : decode cX6_countFreezing 3 = .ok (.invokevirtual 109, 3) := by decide +kernel
theorem dX6_countFreezing_6 : decode cX6_countFreezing 6 = .ok (.lstore_n 1, 1) := by decide +kernel
theorem dX6_countFreezing_7 : decode cX6_countFreezing 7 = .ok (.iconst 0, 1) := by decide +kernel
theorem dX6_countFreezing_8 : decode cX6_countFreezing 8 = .ok (.istore_n 3, 1) := by decide +kernel
theorem dX6_countFreezing_9 : decode cX6_countFreezing 9 = .ok (.iconst 0, 1) := by decide +kernel
theorem dX6_countFreezing_10 : decode cX6_countFreezing 10 = .ok (.istore 4, 2) := by decide +kernel
theorem dX6_countFreezing_12 : decode cX6_countFreezing 12 = .ok (.iload 4, 2) := by decide +kernel
theorem dX6_countFreezing_14 : decode cX6_countFreezing 14 = .ok (.bipush 48, 2) := by decide +kernel
theorem dX6_countFreezing_16 : decode cX6_countFreezing 16 = .ok (.if_icmp .ge 41, 3) := by decide +kernel
theorem dX6_countFreezing_19 : decode cX6_countFreezing 19 = .ok (.lload_n 1, 1) := by decide +kernel
theorem dX6_countFreezing_20 : decode cX6_countFreezing 20 = .ok (.aload_n 0, 1) := by decide +kernel
theorem dX6_countFreezing_21 : decode cX6_countFreezing 21 = .ok (.iload 4, 2) := by decide +kernel
theorem dX6_countFreezing_23 : decode cX6_countFreezing 23 = .ok (.invokevirtual 140, 3) := by decide +kernel
theorem dX6_countFreezing_26 : decode cX6_countFreezing 26 = .ok (.invokestatic 78, 3) := by decide +kernel
theorem dX6_countFreezing_29 : decode cX6_countFreezing 29 = .ok (.ifCond .ne 19, 3) := by decide +kernel
theorem dX6_countFreezing_32 : decode cX6_countFreezing 32 = .ok (.aload_n 0, 1) := by decide +kernel
theorem dX6_countFreezing_33 : decode cX6_countFreezing 33 = .ok (.getfield 66, 3) := by decide +kernel
theorem dX6_countFreezing_36 : decode cX6_countFreezing 36 = .ok (.aload_n 0, 1) := by decide +kernel
theorem dX6_countFreezing_37 : decode cX6_countFreezing 37 = .ok (.iload 4, 2) := by decide +kernel
theorem dX6_countFreezing_39 : decode cX6_countFreezing 39 = .ok (.invokevirtual 143, 3) := by decide +kernel
theorem dX6_countFreezing_42 : decode cX6_countFreezing 42 = .ok (.invokestatic 78, 3) := by decide +kernel
theorem dX6_countFreezing_45 : decode cX6_countFreezing 45 = .ok (.ifCond .eq 6, 3) := by decide +kernel
theorem dX6_countFreezing_48 : decode cX6_countFreezing 48 = .ok (.iinc 3 1, 3) := by decide +kernel
theorem dX6_countFreezing_51 : decode cX6_countFreezing 51 = .ok (.iinc 4 1, 3) := by decide +kernel
theorem dX6_countFreezing_54 : decode cX6_countFreezing 54 = .ok (.goto (-42), 3) := by decide +kernel
theorem dX6_countFreezing_57 : decode cX6_countFreezing 57 = .ok (.iload_n 3, 1) := by decide +kernel
theorem dX6_countFreezing_58 : decode cX6_countFreezing 58 = .ok (.ireturn, 1) := by decide +kernel
theorem dX6_countingFor_0 : decode cX6_countingFor 0 = .ok (.aload_n 0, 1) := by decide +kernel
theorem dX6_countingFor_1 : decode cX6_countingFor 1 = .ok (.iload_n 1, 1) := by decide +kernel
theorem dX6_countingFor_2 : decode cX6_countingFor 2 = .ok (.invokevirtual 126, 3) := by decide +kernel
theorem dX6_countingFor_5 : decode cX6_countingFor 5 = .ok (.ifCond .ne 5, 3) := by decide +kernel
theorem dX6_countingFor_8 : decode cX6_countingFor 8 = .ok (.lconst 0, 1) := by decide +kernel
theorem dX6_countingFor_9 : decode cX6_countingFor 9 = .ok (.lreturn, 1) := by decide +kernel
theorem dX6_countingFor_10 : decode cX6_countingFor 10 = .ok (.lconst 1, 1) := by decide +kernel
theorem dX6_countingFor_11 : decode cX6_countingFor 11 = .ok (.aload_n 0, 1) := by decide +kernel
theorem dX6_countingFor_12 : decode cX6_countingFor 12 = .ok (.getfield 9, 3) := by decide +kernel
theorem dX6_countingFor_15 : decode cX6_countingFor 15 = .ok (.iload_n 1, 1) := by decide +kernel
theorem dX6_countingFor_16 : decode cX6_countingFor 16 = .ok (.iaload, 1) := by decide +kernel
theorem dX6_countingFor_17 : decode cX6_countingFor 17 = .ok (.lshl, 1) := by decide +kernel
theorem dX6_countingFor_18 : decode cX6_countingFor 18 = .ok (.aload_n 0, 1) := by decide +kernel
theorem dX6_countingFor_19 : decode cX6_countingFor 19 = .ok (.getfield 63, 3) := by decide +kernel
theorem dX6_countingFor_22 : decode cX6_countingFor 22 = .ok (.aload_n 0, 1) := by decide +kernel
theorem dX6_countingFor_23 : decode cX6_countingFor 23 = .ok (.getfield 15, 3) := by decide +kernel
theorem dX6_countingFor_26 : decode cX6_countingFor 26 = .ok (.iload_n 1, 1) := by decide +kernel
theorem dX6_countingFor_27 : decode cX6_countingFor 27 = .ok (.laload, 1) := by decide +kernel
theorem dX6_countingFor_28 : decode cX6_countingFor 28 = .ok (.ldc2_w 116, 3) := by decide +kernel
theorem dX6_countingFor_31 : decode cX6_countingFor 31 = .ok (.lxor, 1) := by decide +kernel
theorem dX6_countingFor_32 : decode cX6_countingFor 32 = .ok (.land, 1) := by decide +kernel
theorem dX6_countingFor_33 : decode cX6_countingFor 33 = .ok (.aload_n 0, 1) := by decide +kernel
theorem dX6_countingFor_34 : decode cX6_countingFor 34 = .ok (.aload_n 0, 1) := by decide +kernel
theorem dX6_countingFor_35 : decode cX6_countingFor 35 = .ok (.getfield 9, 3) := by decide +kernel
theorem dX6_countingFor_38 : decode cX6_countingFor 38 = .ok (.iload_n 1, 1) := by decide +kernel
theorem dX6_countingFor_39 : decode cX6_countingFor 39 = .ok (.iaload, 1) := by decide +kernel
theorem dX6_countingFor_40 : decode cX6_countingFor 40 = .ok (.invokevirtual 99, 3) := by decide +kernel
theorem dX6_countingFor_43 : decode cX6_countingFor 43 = .ok (.land, 1) := by decide +kernel
theorem dX6_countingFor_44 : decode cX6_countingFor 44 = .ok (.lor, 1) := by decide +kernel
theorem dX6_countingFor_45 : decode cX6_countingFor 45 = .ok (.lreturn, 1) := by decide +kernel
theorem dX6_countingFresh_0 : decode cX6_countingFresh 0 = .ok (.aload_n 0, 1) := by decide +kernel
theorem dX6_countingFresh_1 : decode cX6_countingFresh 1 = .ok (.getfield 63, 3) := by decide +kernel
theorem dX6_countingFresh_4 : decode cX6_countingFresh 4 = .ok (.lreturn, 1) := by decide +kernel
theorem dX6_countingAsOf_0 : decode cX6_countingAsOf 0 = .ok (.aload_n 0, 1) := by decide +kernel
theorem dX6_countingAsOf_1 : decode cX6_countingAsOf 1 = .ok (.getfield 63, 3) := by decide +kernel
theorem dX6_countingAsOf_4 : decode cX6_countingAsOf 4 = .ok (.aload_n 0, 1) := by decide +kernel
theorem dX6_countingAsOf_5 : decode cX6_countingAsOf 5 = .ok (.iload_n 1, 1) := by decide +kernel
theorem dX6_countingAsOf_6 : decode cX6_countingAsOf 6 = .ok (.invokevirtual 99, 3) := by decide +kernel
theorem dX6_countingAsOf_9 : decode cX6_countingAsOf 9 = .ok (.land, 1) := by decide +kernel
theorem dX6_countingAsOf_10 : decode cX6_countingAsOf 10 = .ok (.lreturn, 1) := by decide +kernel
theorem dX6_isSeen_0 : decode cX6_isSeen 0 = .ok (.aload_n 0, 1) := by decide +kernel
theorem dX6_isSeen_1 : decode cX6_isSeen 1 = .ok (.iload_n 1, 1) := by decide +kernel
theorem dX6_isSeen_2 : decode cX6_isSeen 2 = .ok (.invokevirtual 102, 3) := by decide +kernel
theorem dX6_isSeen_5 : decode cX6_isSeen 5 = .ok (.ifCond .ne 5, 3) := by decide +kernel
theorem dX6_isSeen_8 : decode cX6_isSeen 8 = .ok (.iconst 0, 1) := by decide +kernel
theorem dX6_isSeen_9 : decode cX6_isSeen 9 = .ok (.ireturn, 1) := by decide +kernel
theorem dX6_isSeen_10 : decode cX6_isSeen 10 = .ok (.aload_n 0, 1) := by decide +kernel
theorem dX6_isSeen_11 : decode cX6_isSeen 11 = .ok (.getfield 25, 3) := by decide +kernel
theorem dX6_isSeen_14 : decode cX6_isSeen 14 = .ok (.iload_n 1, 1) := by decide +kernel
theorem dX6_isSeen_15 : decode cX6_isSeen 15 = .ok (.iaload, 1) := by decide +kernel
theorem dX6_isSeen_16 : decode cX6_isSeen 16 = .ok (.bipush (-2), 2) := by decide +kernel
theorem dX6_isSeen_18 : decode cX6_isSeen 18 = .ok (.if_icmp .eq 16, 3) := by decide +kernel
theorem dX6_isSeen_21 : decode cX6_isSeen 21 = .ok (.lload_n 2, 1) := by decide +kernel
theorem dX6_isSeen_22 : decode cX6_isSeen 22 = .ok (.aload_n 0, 1) := by decide +kernel
theorem dX6_isSeen_23 : decode cX6_isSeen 23 = .ok (.getfield 25, 3) := by decide +kernel
theorem dX6_isSeen_26 : decode cX6_isSeen 26 = .ok (.iload_n 1, 1) := by decide +kernel
theorem dX6_isSeen_27 : decode cX6_isSeen 27 = .ok (.iaload, 1) := by decide +kernel
theorem dX6_isSeen_28 : decode cX6_isSeen 28 = .ok (.invokestatic 78, 3) := by decide +kernel
theorem dX6_isSeen_31 : decode cX6_isSeen 31 = .ok (.ifCond .eq 7, 3) := by decide +kernel
theorem dX6_isSeen_34 : decode cX6_isSeen 34 = .ok (.iconst 1, 1) := by decide +kernel
theorem dX6_isSeen_35 : decode cX6_isSeen 35 = .ok (.goto 4, 3) := by decide +kernel
theorem dX6_isSeen_38 : decode cX6_isSeen 38 = .ok (.iconst 0, 1) := by decide +kernel
theorem dX6_isSeen_39 : decode cX6_isSeen 39 = .ok (.istore 4, 2) := by decide +kernel
theorem dX6_isSeen_41 : decode cX6_isSeen 41 = .ok (.iload 4, 2) := by decide +kernel
theorem dX6_isSeen_43 : decode cX6_isSeen 43 = .ok (.ifCond .eq 20, 3) := by decide +kernel
theorem dX6_isSeen_46 : decode cX6_isSeen 46 = .ok (.lload_n 2, 1) := by decide +kernel
theorem dX6_isSeen_47 : decode cX6_isSeen 47 = .ok (.aload_n 0, 1) := by decide +kernel
theorem dX6_isSeen_48 : decode cX6_isSeen 48 = .ok (.getfield 28, 3) := by decide +kernel
theorem dX6_isSeen_51 : decode cX6_isSeen 51 = .ok (.iload_n 1, 1) := by decide +kernel
theorem dX6_isSeen_52 : decode cX6_isSeen 52 = .ok (.iaload, 1) := by decide +kernel
theorem dX6_isSeen_53 : decode cX6_isSeen 53 = .ok (.invokestatic 78, 3) := by decide +kernel
theorem dX6_isSeen_56 : decode cX6_isSeen 56 = .ok (.ifCond .ne 7, 3) := by decide +kernel
theorem dX6_isSeen_59 : decode cX6_isSeen 59 = .ok (.iconst 1, 1) := by decide +kernel
theorem dX6_isSeen_60 : decode cX6_isSeen 60 = .ok (.goto 4, 3) := by decide +kernel
theorem dX6_isSeen_63 : decode cX6_isSeen 63 = .ok (.iconst 0, 1) := by decide +kernel
theorem dX6_isSeen_64 : decode cX6_isSeen 64 = .ok (.ireturn, 1) := by decide +kernel
theorem dX6_versionSeen_0 : decode cX6_versionSeen 0 = .ok (.aload_n 0, 1) := by decide +kernel
theorem dX6_versionSeen_1 : decode cX6_versionSeen 1 = .ok (.getfield 53, 3) := by decide +kernel
theorem dX6_versionSeen_4 : decode cX6_versionSeen 4 = .ok (.iconst 1, 1) := by decide +kernel
theorem dX6_versionSeen_5 : decode cX6_versionSeen 5 = .ok (.isub, 1) := by decide +kernel
theorem dX6_versionSeen_6 : decode cX6_versionSeen 6 = .ok (.istore 4, 2) := by decide +kernel
theorem dX6_versionSeen_8 : decode cX6_versionSeen 8 = .ok (.iload 4, 2) := by decide +kernel
theorem dX6_versionSeen_10 : decode cX6_versionSeen 10 = .ok (.ifCond .lt 40, 3) := by decide +kernel
theorem dX6_versionSeen_13 : decode cX6_versionSeen 13 = .ok (.aload_n 0, 1) := by decide +kernel
theorem dX6_versionSeen_14 : decode cX6_versionSeen 14 = .ok (.iload 4, 2) := by decide +kernel
theorem dX6_versionSeen_16 : decode cX6_versionSeen 16 = .ok (.invokevirtual 137, 3) := by decide +kernel
theorem dX6_versionSeen_19 : decode cX6_versionSeen 19 = .ok (.istore 5, 2) := by decide +kernel
theorem dX6_versionSeen_21 : decode cX6_versionSeen 21 = .ok (.aload_n 0, 1) := by decide +kernel
theorem dX6_versionSeen_22 : decode cX6_versionSeen 22 = .ok (.iload 5, 2) := by decide +kernel
theorem dX6_versionSeen_24 : decode cX6_versionSeen 24 = .ok (.invokevirtual 134, 3) := by decide +kernel
theorem dX6_versionSeen_27 : decode cX6_versionSeen 27 = .ok (.iload_n 1, 1) := by decide +kernel
theorem dX6_versionSeen_28 : decode cX6_versionSeen 28 = .ok (.if_icmp .ne 16, 3) := by decide +kernel
theorem dX6_versionSeen_31 : decode cX6_versionSeen 31 = .ok (.aload_n 0, 1) := by decide +kernel
theorem dX6_versionSeen_32 : decode cX6_versionSeen 32 = .ok (.iload 5, 2) := by decide +kernel
theorem dX6_versionSeen_34 : decode cX6_versionSeen 34 = .ok (.lload_n 2, 1) := by decide +kernel
theorem dX6_versionSeen_35 : decode cX6_versionSeen 35 = .ok (.invokevirtual 149, 3) := by decide +kernel
theorem dX6_versionSeen_38 : decode cX6_versionSeen 38 = .ok (.ifCond .eq 6, 3) := by decide +kernel
theorem dX6_versionSeen_41 : decode cX6_versionSeen 41 = .ok (.iload 5, 2) := by decide +kernel
theorem dX6_versionSeen_43 : decode cX6_versionSeen 43 = .ok (.ireturn, 1) := by decide +kernel
theorem dX6_versionSeen_44 : decode cX6_versionSeen 44 = .ok (.iinc 4 (-1), 3) := by decide +kernel
theorem dX6_versionSeen_47 : decode cX6_versionSeen 47 = .ok (.goto (-39), 3) := by decide +kernel
theorem dX6_versionSeen_50 : decode cX6_versionSeen 50 = .ok (.bipush (-2), 2) := by decide +kernel
theorem dX6_versionSeen_52 : decode cX6_versionSeen 52 = .ok (.ireturn, 1) := by decide +kernel
theorem dX6_valueSeen_0 : decode cX6_valueSeen 0 = .ok (.aload_n 0, 1) := by decide +kernel
theorem dX6_valueSeen_1 : decode cX6_valueSeen 1 = .ok (.aload_n 0, 1) := by decide +kernel
theorem dX6_valueSeen_2 : decode cX6_valueSeen 2 = .ok (.iload_n 1, 1) := by decide +kernel
theorem dX6_valueSeen_3 : decode cX6_valueSeen 3 = .ok (.lload_n 2, 1) := by decide +kernel
theorem dX6_valueSeen_4 : decode cX6_valueSeen 4 = .ok (.invokevirtual 153, 3) := by decide +kernel
theorem dX6_valueSeen_7 : decode cX6_valueSeen 7 = .ok (.invokevirtual 157, 3) := by decide +kernel
theorem dX6_valueSeen_10 : decode cX6_valueSeen 10 = .ok (.ireturn, 1) := by decide +kernel
theorem dX6_sumSeen_0 : decode cX6_sumSeen 0 = .ok (.iconst 0, 1) := by decide +kernel
theorem dX6_sumSeen_1 : decode cX6_sumSeen 1 = .ok (.istore_n 3, 1) := by decide +kernel
theorem dX6_sumSeen_2 : decode cX6_sumSeen 2 = .ok (.iconst 0, 1) := by decide +kernel
theorem dX6_sumSeen_3 : decode cX6_sumSeen 3 = .ok (.istore 4, 2) := by decide +kernel
theorem dX6_sumSeen_5 : decode cX6_sumSeen 5 = .ok (.aload_n 0, 1) := by decide +kernel
theorem dX6_sumSeen_6 : decode cX6_sumSeen 6 = .ok (.getfield 53, 3) := by decide +kernel
theorem dX6_sumSeen_9 : decode cX6_sumSeen 9 = .ok (.iconst 1, 1) := by decide +kernel
theorem dX6_sumSeen_10 : decode cX6_sumSeen 10 = .ok (.isub, 1) := by decide +kernel
theorem dX6_sumSeen_11 : decode cX6_sumSeen 11 = .ok (.istore 5, 2) := by decide +kernel
theorem dX6_sumSeen_13 : decode cX6_sumSeen 13 = .ok (.iload 5, 2) := by decide +kernel
theorem dX6_sumSeen_15 : decode cX6_sumSeen 15 = .ok (.ifCond .lt 63, 3) := by decide +kernel
theorem dX6_sumSeen_18 : decode cX6_sumSeen 18 = .ok (.aload_n 0, 1) := by decide +kernel
theorem dX6_sumSeen_19 : decode cX6_sumSeen 19 = .ok (.iload 5, 2) := by decide +kernel
theorem dX6_sumSeen_21 : decode cX6_sumSeen 21 = .ok (.invokevirtual 137, 3) := by decide +kernel
theorem dX6_sumSeen_24 : decode cX6_sumSeen 24 = .ok (.istore 6, 2) := by decide +kernel
theorem dX6_sumSeen_26 : decode cX6_sumSeen 26 = .ok (.aload_n 0, 1) := by decide +kernel
theorem dX6_sumSeen_27 : decode cX6_sumSeen 27 = .ok (.iload 6, 2) := by decide +kernel
theorem dX6_sumSeen_29 : decode cX6_sumSeen 29 = .ok (.lload_n 1, 1) := by decide +kernel
theorem dX6_sumSeen_30 : decode cX6_sumSeen 30 = .ok (.invokevirtual 149, 3) := by decide +kernel
theorem dX6_sumSeen_33 : decode cX6_sumSeen 33 = .ok (.ifCond .eq 39, 3) := by decide +kernel
theorem dX6_sumSeen_36 : decode cX6_sumSeen 36 = .ok (.iload 4, 2) := by decide +kernel
theorem dX6_sumSeen_38 : decode cX6_sumSeen 38 = .ok (.aload_n 0, 1) := by decide +kernel
theorem dX6_sumSeen_39 : decode cX6_sumSeen 39 = .ok (.iload 6, 2) := by decide +kernel
theorem dX6_sumSeen_41 : decode cX6_sumSeen 41 = .ok (.invokevirtual 134, 3) := by decide +kernel
theorem dX6_sumSeen_44 : decode cX6_sumSeen 44 = .ok (.ishr, 1) := by decide +kernel
theorem dX6_sumSeen_45 : decode cX6_sumSeen 45 = .ok (.iconst 1, 1) := by decide +kernel
theorem dX6_sumSeen_46 : decode cX6_sumSeen 46 = .ok (.iand, 1) := by decide +kernel
theorem dX6_sumSeen_47 : decode cX6_sumSeen 47 = .ok (.ifCond .ne 25, 3) := by decide +kernel
theorem dX6_sumSeen_50 : decode cX6_sumSeen 50 = .ok (.iload 4, 2) := by decide +kernel
theorem dX6_sumSeen_52 : decode cX6_sumSeen 52 = .ok (.iconst 1, 1) := by decide +kernel
theorem dX6_sumSeen_53 : decode cX6_sumSeen 53 = .ok (.aload_n 0, 1) := by decide +kernel
theorem dX6_sumSeen_54 : decode cX6_sumSeen 54 = .ok (.iload 6, 2) := by decide +kernel
theorem dX6_sumSeen_56 : decode cX6_sumSeen 56 = .ok (.invokevirtual 134, 3) := by decide +kernel
theorem dX6_sumSeen_59 : decode cX6_sumSeen 59 = .ok (.ishl, 1) := by decide +kernel
theorem dX6_sumSeen_60 : decode cX6_sumSeen 60 = .ok (.ior, 1) := by decide +kernel
theorem dX6_sumSeen_61 : decode cX6_sumSeen 61 = .ok (.istore 4, 2) := by decide +kernel
theorem dX6_sumSeen_63 : decode cX6_sumSeen 63 = .ok (.iload_n 3, 1) := by decide +kernel
theorem dX6_sumSeen_64 : decode cX6_sumSeen 64 = .ok (.aload_n 0, 1) := by decide +kernel
theorem dX6_sumSeen_65 : decode cX6_sumSeen 65 = .ok (.iload 6, 2) := by decide +kernel
theorem dX6_sumSeen_67 : decode cX6_sumSeen 67 = .ok (.invokevirtual 157, 3) := by decide +kernel
theorem dX6_sumSeen_70 : decode cX6_sumSeen 70 = .ok (.iadd, 1) := by decide +kernel
theorem dX6_sumSeen_71 : decode cX6_sumSeen 71 = .ok (.istore_n 3, 1) := by decide +kernel
theorem dX6_sumSeen_72 : decode cX6_sumSeen 72 = .ok (.iinc 5 (-1), 3) := by decide +kernel
theorem dX6_sumSeen_75 : decode cX6_sumSeen 75 = .ok (.goto (-62), 3) := by decide +kernel
theorem dX6_sumSeen_78 : decode cX6_sumSeen 78 = .ok (.iload_n 3, 1) := by decide +kernel
theorem dX6_sumSeen_79 : decode cX6_sumSeen 79 = .ok (.ireturn, 1) := by decide +kernel
theorem dX6_emptyRow_0 : decode cX6_emptyRow 0 = .ok (.iconst 0, 1) := by decide +kernel
theorem dX6_emptyRow_1 : decode cX6_emptyRow 1 = .ok (.istore_n 2, 1) := by decide +kernel
theorem dX6_emptyRow_2 : decode cX6_emptyRow 2 = .ok (.iconst 0, 1) := by decide +kernel
theorem dX6_emptyRow_3 : decode cX6_emptyRow 3 = .ok (.istore_n 3, 1) := by decide +kernel
theorem dX6_emptyRow_4 : decode cX6_emptyRow 4 = .ok (.iload_n 3, 1) := by decide +kernel
theorem dX6_emptyRow_5 : decode cX6_emptyRow 5 = .ok (.aload_n 0, 1) := by decide +kernel
theorem dX6_emptyRow_6 : decode cX6_emptyRow 6 = .ok (.getfield 44, 3) := by decide +kernel
theorem dX6_emptyRow_9 : decode cX6_emptyRow 9 = .ok (.if_icmp .ge 36, 3) := by decide +kernel
theorem dX6_emptyRow_12 : decode cX6_emptyRow 12 = .ok (.aload_n 0, 1) := by decide +kernel
theorem dX6_emptyRow_13 : decode cX6_emptyRow 13 = .ok (.iload_n 3, 1) := by decide +kernel
theorem dX6_emptyRow_14 : decode cX6_emptyRow 14 = .ok (.aload_n 0, 1) := by decide +kernel
theorem dX6_emptyRow_15 : decode cX6_emptyRow 15 = .ok (.getfield 63, 3) := by decide +kernel
theorem dX6_emptyRow_18 : decode cX6_emptyRow 18 = .ok (.invokevirtual 153, 3) := by decide +kernel
theorem dX6_emptyRow_21 : decode cX6_emptyRow 21 = .ok (.bipush (-2), 2) := by decide +kernel
theorem dX6_emptyRow_23 : decode cX6_emptyRow 23 = .ok (.if_icmp .eq 6, 3) := by decide +kernel
theorem dX6_emptyRow_26 : decode cX6_emptyRow 26 = .ok (.goto 13, 3) := by decide +kernel
theorem dX6_emptyRow_29 : decode cX6_emptyRow 29 = .ok (.iload_n 2, 1) := by decide +kernel
theorem dX6_emptyRow_30 : decode cX6_emptyRow 30 = .ok (.iload_n 1, 1) := by decide +kernel
theorem dX6_emptyRow_31 : decode cX6_emptyRow 31 = .ok (.if_icmp .ne 5, 3) := by decide +kernel
theorem dX6_emptyRow_34 : decode cX6_emptyRow 34 = .ok (.iload_n 3, 1) := by decide +kernel
theorem dX6_emptyRow_35 : decode cX6_emptyRow 35 = .ok (.ireturn, 1) := by decide +kernel
theorem dX6_emptyRow_36 : decode cX6_emptyRow 36 = .ok (.iinc 2 1, 3) := by decide +kernel
theorem dX6_emptyRow_39 : decode cX6_emptyRow 39 = .ok (.iinc 3 1, 3) := by decide +kernel
theorem dX6_emptyRow_42 : decode cX6_emptyRow 42 = .ok (.goto (-38), 3) := by decide +kernel
theorem dX6_emptyRow_45 : decode cX6_emptyRow 45 = .ok (.bipush (-2), 2) := by decide +kernel
theorem dX6_emptyRow_47 : decode cX6_emptyRow 47 = .ok (.ireturn, 1) := by decide +kernel
theorem dX6_lastNotGone_0 : decode cX6_lastNotGone 0 = .ok (.aload_n 0, 1) := by decide +kernel
theorem dX6_lastNotGone_1 : decode cX6_lastNotGone 1 = .ok (.getfield 53, 3) := by decide +kernel
theorem dX6_lastNotGone_4 : decode cX6_lastNotGone 4 = .ok (.iconst 1, 1) := by decide +kernel
theorem dX6_lastNotGone_5 : decode cX6_lastNotGone 5 = .ok (.isub, 1) := by decide +kernel
theorem dX6_lastNotGone_6 : decode cX6_lastNotGone 6 = .ok (.istore_n 2, 1) := by decide +kernel
theorem dX6_lastNotGone_7 : decode cX6_lastNotGone 7 = .ok (.iload_n 2, 1) := by decide +kernel
theorem dX6_lastNotGone_8 : decode cX6_lastNotGone 8 = .ok (.ifCond .lt 41, 3) := by decide +kernel
theorem dX6_lastNotGone_11 : decode cX6_lastNotGone 11 = .ok (.aload_n 0, 1) := by decide +kernel
theorem dX6_lastNotGone_12 : decode cX6_lastNotGone 12 = .ok (.iload_n 2, 1) := by decide +kernel
theorem dX6_lastNotGone_13 : decode cX6_lastNotGone 13 = .ok (.invokevirtual 137, 3) := by decide +kernel
theorem dX6_lastNotGone_16 : decode cX6_lastNotGone 16 = .ok (.istore_n 3, 1) := by decide +kernel
theorem dX6_lastNotGone_17 : decode cX6_lastNotGone 17 = .ok (.aload_n 0, 1) := by decide +kernel
theorem dX6_lastNotGone_18 : decode cX6_lastNotGone 18 = .ok (.iload_n 3, 1) := by decide +kernel
theorem dX6_lastNotGone_19 : decode cX6_lastNotGone 19 = .ok (.invokevirtual 134, 3) := by decide +kernel
theorem dX6_lastNotGone_22 : decode cX6_lastNotGone 22 = .ok (.iload_n 1, 1) := by decide +kernel
theorem dX6_lastNotGone_23 : decode cX6_lastNotGone 23 = .ok (.if_icmp .ne 20, 3) := by decide +kernel
theorem dX6_lastNotGone_26 : decode cX6_lastNotGone 26 = .ok (.aload_n 0, 1) := by decide +kernel
theorem dX6_lastNotGone_27 : decode cX6_lastNotGone 27 = .ok (.getfield 66, 3) := by decide +kernel
theorem dX6_lastNotGone_30 : decode cX6_lastNotGone 30 = .ok (.aload_n 0, 1) := by decide +kernel
theorem dX6_lastNotGone_31 : decode cX6_lastNotGone 31 = .ok (.iload_n 3, 1) := by decide +kernel
theorem dX6_lastNotGone_32 : decode cX6_lastNotGone 32 = .ok (.invokevirtual 140, 3) := by decide +kernel
theorem dX6_lastNotGone_35 : decode cX6_lastNotGone 35 = .ok (.invokestatic 78, 3) := by decide +kernel
theorem dX6_lastNotGone_38 : decode cX6_lastNotGone 38 = .ok (.ifCond .ne 5, 3) := by decide +kernel
theorem dX6_lastNotGone_41 : decode cX6_lastNotGone 41 = .ok (.iload_n 3, 1) := by decide +kernel
theorem dX6_lastNotGone_42 : decode cX6_lastNotGone 42 = .ok (.ireturn, 1) := by decide +kernel
theorem dX6_lastNotGone_43 : decode cX6_lastNotGone 43 = .ok (.iinc 2 (-1), 3) := by decide +kernel
theorem dX6_lastNotGone_46 : decode cX6_lastNotGone 46 = .ok (.goto (-39), 3) := by decide +kernel
theorem dX6_lastNotGone_49 : decode cX6_lastNotGone 49 = .ok (.bipush (-2), 2) := by decide +kernel
theorem dX6_lastNotGone_51 : decode cX6_lastNotGone 51 = .ok (.ireturn, 1) := by decide +kernel
theorem dX6_verdict_0 : decode cX6_verdict 0 = .ok (.aload_n 0, 1) := by decide +kernel
theorem dX6_verdict_1 : decode cX6_verdict 1 = .ok (.iload_n 1, 1) := by decide +kernel
theorem dX6_verdict_2 : decode cX6_verdict 2 = .ok (.invokevirtual 160, 3) := by decide +kernel
theorem dX6_verdict_5 : decode cX6_verdict 5 = .ok (.ifCond .eq 5, 3) := by decide +kernel
theorem dX6_verdict_8 : decode cX6_verdict 8 = .ok (.iconst 3, 1) := by decide +kernel
theorem dX6_verdict_9 : decode cX6_verdict 9 = .ok (.ireturn, 1) := by decide +kernel
theorem dX6_verdict_10 : decode cX6_verdict 10 = .ok (.aload_n 0, 1) := by decide +kernel
theorem dX6_verdict_11 : decode cX6_verdict 11 = .ok (.iload_n 1, 1) := by decide +kernel
theorem dX6_verdict_12 : decode cX6_verdict 12 = .ok (.invokevirtual 163, 3) := by decide +kernel
theorem dX6_verdict_15 : decode cX6_verdict 15 = .ok (.lstore_n 3, 1) := by decide +kernel
theorem dX6_verdict_16 : decode cX6_verdict 16 = .ok (.aload_n 0, 1) := by decide +kernel
theorem dX6_verdict_17 : decode cX6_verdict 17 = .ok (.iload_n 2, 1) := by decide +kernel
theorem dX6_verdict_18 : decode cX6_verdict 18 = .ok (.lload_n 3, 1) := by decide +kernel
theorem dX6_verdict_19 : decode cX6_verdict 19 = .ok (.invokevirtual 153, 3) := by decide +kernel
theorem dX6_verdict_22 : decode cX6_verdict 22 = .ok (.istore 5, 2) := by decide +kernel
theorem dX6_verdict_24 : decode cX6_verdict 24 = .ok (.iload 5, 2) := by decide +kernel
theorem dX6_verdict_26 : decode cX6_verdict 26 = .ok (.bipush (-2), 2) := by decide +kernel
theorem dX6_verdict_28 : decode cX6_verdict 28 = .ok (.if_icmp .ne 15, 3) := by decide +kernel
theorem dX6_verdict_31 : decode cX6_verdict 31 = .ok (.aload_n 0, 1) := by decide +kernel
theorem dX6_verdict_32 : decode cX6_verdict 32 = .ok (.aload_n 0, 1) := by decide +kernel
theorem dX6_verdict_33 : decode cX6_verdict 33 = .ok (.iload_n 2, 1) := by decide +kernel
theorem dX6_verdict_34 : decode cX6_verdict 34 = .ok (.invokevirtual 166, 3) := by decide +kernel
theorem dX6_verdict_37 : decode cX6_verdict 37 = .ok (.invokevirtual 140, 3) := by decide +kernel
theorem dX6_verdict_40 : decode cX6_verdict 40 = .ok (.goto 9, 3) := by decide +kernel
theorem dX6_verdict_43 : decode cX6_verdict 43 = .ok (.aload_n 0, 1) := by decide +kernel
theorem dX6_verdict_44 : decode cX6_verdict 44 = .ok (.iload 5, 2) := by decide +kernel
theorem dX6_verdict_46 : decode cX6_verdict 46 = .ok (.invokevirtual 143, 3) := by decide +kernel
theorem dX6_verdict_49 : decode cX6_verdict 49 = .ok (.istore 6, 2) := by decide +kernel
theorem dX6_verdict_51 : decode cX6_verdict 51 = .ok (.lload_n 3, 1) := by decide +kernel
theorem dX6_verdict_52 : decode cX6_verdict 52 = .ok (.iload 6, 2) := by decide +kernel
theorem dX6_verdict_54 : decode cX6_verdict 54 = .ok (.invokestatic 78, 3) := by decide +kernel
theorem dX6_verdict_57 : decode cX6_verdict 57 = .ok (.ifCond .eq 5, 3) := by decide +kernel
theorem dX6_verdict_60 : decode cX6_verdict 60 = .ok (.iconst 0, 1) := by decide +kernel
theorem dX6_verdict_61 : decode cX6_verdict 61 = .ok (.ireturn, 1) := by decide +kernel
theorem dX6_verdict_62 : decode cX6_verdict 62 = .ok (.aload_n 0, 1) := by decide +kernel
theorem dX6_verdict_63 : decode cX6_verdict 63 = .ok (.getfield 59, 3) := by decide +kernel
theorem dX6_verdict_66 : decode cX6_verdict 66 = .ok (.iload 6, 2) := by decide +kernel
theorem dX6_verdict_68 : decode cX6_verdict 68 = .ok (.invokestatic 78, 3) := by decide +kernel
theorem dX6_verdict_71 : decode cX6_verdict 71 = .ok (.ifCond .eq 5, 3) := by decide +kernel
theorem dX6_verdict_74 : decode cX6_verdict 74 = .ok (.iconst 1, 1) := by decide +kernel
theorem dX6_verdict_75 : decode cX6_verdict 75 = .ok (.ireturn, 1) := by decide +kernel
theorem dX6_verdict_76 : decode cX6_verdict 76 = .ok (.aload_n 0, 1) := by decide +kernel
theorem dX6_verdict_77 : decode cX6_verdict 77 = .ok (.getfield 63, 3) := by decide +kernel
theorem dX6_verdict_80 : decode cX6_verdict 80 = .ok (.iload 6, 2) := by decide +kernel
theorem dX6_verdict_82 : decode cX6_verdict 82 = .ok (.invokestatic 78, 3) := by decide +kernel
theorem dX6_verdict_85 : decode cX6_verdict 85 = .ok (.ifCond .eq 7, 3) := by decide +kernel
theorem dX6_verdict_88 : decode cX6_verdict 88 = .ok (.iconst 2, 1) := by decide +kernel
theorem dX6_verdict_89 : decode cX6_verdict 89 = .ok (.goto 4, 3) := by decide +kernel
theorem dX6_verdict_92 : decode cX6_verdict 92 = .ok (.iconst 0, 1) := by decide +kernel
theorem dX6_verdict_93 : decode cX6_verdict 93 = .ok (.ireturn, 1) := by decide +kernel
theorem dX6_holder_0 : decode cX6_holder 0 = .ok (.aload_n 0, 1) := by decide +kernel
theorem dX6_holder_1 : decode cX6_holder 1 = .ok (.iload_n 1, 1) := by decide +kernel
theorem dX6_holder_2 : decode cX6_holder 2 = .ok (.iload_n 2, 1) := by decide +kernel
theorem dX6_holder_3 : decode cX6_holder 3 = .ok (.invokevirtual 169, 3) := by decide +kernel
theorem dX6_holder_6 : decode cX6_holder 6 = .ok (.iconst 1, 1) := by decide +kernel
theorem dX6_holder_7 : decode cX6_holder 7 = .ok (.if_icmp .eq 6, 3) := by decide +kernel
theorem dX6_holder_10 : decode cX6_holder 10 = .ok (.bipush (-2), 2) := by decide +kernel
theorem dX6_holder_12 : decode cX6_holder 12 = .ok (.ireturn, 1) := by decide +kernel
theorem dX6_holder_13 : decode cX6_holder 13 = .ok (.aload_n 0, 1) := by decide +kernel
theorem dX6_holder_14 : decode cX6_holder 14 = .ok (.iload_n 2, 1) := by decide +kernel
theorem dX6_holder_15 : decode cX6_holder 15 = .ok (.aload_n 0, 1) := by decide +kernel
theorem dX6_holder_16 : decode cX6_holder 16 = .ok (.iload_n 1, 1) := by decide +kernel
theorem dX6_holder_17 : decode cX6_holder 17 = .ok (.invokevirtual 163, 3) := by decide +kernel
theorem dX6_holder_20 : decode cX6_holder 20 = .ok (.invokevirtual 153, 3) := by decide +kernel
theorem dX6_holder_23 : decode cX6_holder 23 = .ok (.istore_n 3, 1) := by decide +kernel
theorem dX6_holder_24 : decode cX6_holder 24 = .ok (.aload_n 0, 1) := by decide +kernel
theorem dX6_holder_25 : decode cX6_holder 25 = .ok (.iload_n 3, 1) := by decide +kernel
theorem dX6_holder_26 : decode cX6_holder 26 = .ok (.bipush (-2), 2) := by decide +kernel
theorem dX6_holder_28 : decode cX6_holder 28 = .ok (.if_icmp .ne 15, 3) := by decide +kernel
theorem dX6_holder_31 : decode cX6_holder 31 = .ok (.aload_n 0, 1) := by decide +kernel
theorem dX6_holder_32 : decode cX6_holder 32 = .ok (.aload_n 0, 1) := by decide +kernel
theorem dX6_holder_33 : decode cX6_holder 33 = .ok (.iload_n 2, 1) := by decide +kernel
theorem dX6_holder_34 : decode cX6_holder 34 = .ok (.invokevirtual 166, 3) := by decide +kernel
theorem dX6_holder_37 : decode cX6_holder 37 = .ok (.invokevirtual 140, 3) := by decide +kernel
theorem dX6_holder_40 : decode cX6_holder 40 = .ok (.goto 8, 3) := by decide +kernel
theorem dX6_holder_43 : decode cX6_holder 43 = .ok (.aload_n 0, 1) := by decide +kernel
theorem dX6_holder_44 : decode cX6_holder 44 = .ok (.iload_n 3, 1) := by decide +kernel
theorem dX6_holder_45 : decode cX6_holder 45 = .ok (.invokevirtual 143, 3) := by decide +kernel
theorem dX6_holder_48 : decode cX6_holder 48 = .ok (.invokevirtual 172, 3) := by decide +kernel
theorem dX6_holder_51 : decode cX6_holder 51 = .ok (.ireturn, 1) := by decide +kernel
theorem dX6_rowsWithVerdict_0 : decode cX6_rowsWithVerdict 0 = .ok (.iconst 0, 1) := by decide +kernel
theorem dX6_rowsWithVerdict_1 : decode cX6_rowsWithVerdict 1 = .ok (.istore_n 3, 1) := by decide +kernel
theorem dX6_rowsWithVerdict_2 : decode cX6_rowsWithVerdict 2 = .ok (.iconst 0, 1) := by decide +kernel
theorem dX6_rowsWithVerdict_3 : decode cX6_rowsWithVerdict 3 = .ok (.istore 4, 2) := by decide +kernel
theorem dX6_rowsWithVerdict_5 : decode cX6_rowsWithVerdict 5 = .ok (.iload 4, 2) := by decide +kernel
theorem dX6_rowsWithVerdict_7 : decode cX6_rowsWithVerdict 7 = .ok (.aload_n 0, 1) := by decide +kernel
theorem dX6_rowsWithVerdict_8 : decode cX6_rowsWithVerdict 8 = .ok (.getfield 44, 3) := by decide +kernel
theorem dX6_rowsWithVerdict_11 : decode cX6_rowsWithVerdict 11 = .ok (.if_icmp .ge 27, 3) := by decide +kernel
theorem dX6_rowsWithVerdict_14 : decode cX6_rowsWithVerdict 14 = .ok (.aload_n 0, 1) := by decide +kernel
theorem dX6_rowsWithVerdict_15 : decode cX6_rowsWithVerdict 15 = .ok (.iload_n 1, 1) := by decide +kernel
theorem dX6_rowsWithVerdict_16 : decode cX6_rowsWithVerdict 16 = .ok (.iload 4, 2) := by decide +kernel
theorem dX6_rowsWithVerdict_18 : decode cX6_rowsWithVerdict 18 = .ok (.invokevirtual 169, 3) := by decide +kernel
theorem dX6_rowsWithVerdict_21 : decode cX6_rowsWithVerdict 21 = .ok (.iload_n 2, 1) := by decide +kernel
theorem dX6_rowsWithVerdict_22 : decode cX6_rowsWithVerdict 22 = .ok (.if_icmp .ne 10, 3) := by decide +kernel
theorem dX6_rowsWithVerdict_25 : decode cX6_rowsWithVerdict 25 = .ok (.iload_n 3, 1) := by decide +kernel
theorem dX6_rowsWithVerdict_26 : decode cX6_rowsWithVerdict 26 = .ok (.iconst 1, 1) := by decide +kernel
theorem dX6_rowsWithVerdict_27 : decode cX6_rowsWithVerdict 27 = .ok (.iload 4, 2) := by decide +kernel
theorem dX6_rowsWithVerdict_29 : decode cX6_rowsWithVerdict 29 = .ok (.ishl, 1) := by decide +kernel
theorem dX6_rowsWithVerdict_30 : decode cX6_rowsWithVerdict 30 = .ok (.ior, 1) := by decide +kernel
theorem dX6_rowsWithVerdict_31 : decode cX6_rowsWithVerdict 31 = .ok (.istore_n 3, 1) := by decide +kernel
theorem dX6_rowsWithVerdict_32 : decode cX6_rowsWithVerdict 32 = .ok (.iinc 4 1, 3) := by decide +kernel
theorem dX6_rowsWithVerdict_35 : decode cX6_rowsWithVerdict 35 = .ok (.goto (-30), 3) := by decide +kernel
theorem dX6_rowsWithVerdict_38 : decode cX6_rowsWithVerdict 38 = .ok (.iload_n 3, 1) := by decide +kernel
theorem dX6_rowsWithVerdict_39 : decode cX6_rowsWithVerdict 39 = .ok (.ireturn, 1) := by decide +kernel
theorem dX6_canBegin_0 : decode cX6_canBegin 0 = .ok (.aload_n 0, 1) := by decide +kernel
theorem dX6_canBegin_1 : decode cX6_canBegin 1 = .ok (.invokevirtual 122, 3) := by decide +kernel
theorem dX6_canBegin_4 : decode cX6_canBegin 4 = .ok (.bipush (-2), 2) := by decide +kernel
theorem dX6_canBegin_6 : decode cX6_canBegin 6 = .ok (.if_icmp .eq 24, 3) := by decide +kernel
theorem dX6_canBegin_9 : decode cX6_canBegin 9 = .ok (.aload_n 0, 1) := by decide +kernel
theorem dX6_canBegin_10 : decode cX6_canBegin 10 = .ok (.aload_n 0, 1) := by decide +kernel
theorem dX6_canBegin_11 : decode cX6_canBegin 11 = .ok (.invokevirtual 175, 3) := by decide +kernel
theorem dX6_canBegin_14 : decode cX6_canBegin 14 = .ok (.invokevirtual 118, 3) := by decide +kernel
theorem dX6_canBegin_17 : decode cX6_canBegin 17 = .ok (.aload_n 0, 1) := by decide +kernel
theorem dX6_canBegin_18 : decode cX6_canBegin 18 = .ok (.getfield 40, 3) := by decide +kernel
theorem dX6_canBegin_21 : decode cX6_canBegin 21 = .ok (.iconst 2, 1) := by decide +kernel
theorem dX6_canBegin_22 : decode cX6_canBegin 22 = .ok (.idiv, 1) := by decide +kernel
theorem dX6_canBegin_23 : decode cX6_canBegin 23 = .ok (.if_icmp .ge 7, 3) := by decide +kernel
theorem dX6_canBegin_26 : decode cX6_canBegin 26 = .ok (.iconst 1, 1) := by decide +kernel
theorem dX6_canBegin_27 : decode cX6_canBegin 27 = .ok (.goto 4, 3) := by decide +kernel
theorem dX6_canBegin_30 : decode cX6_canBegin 30 = .ok (.iconst 0, 1) := by decide +kernel
theorem dX6_canBegin_31 : decode cX6_canBegin 31 = .ok (.ireturn, 1) := by decide +kernel
theorem dX6_beginWriter_0 : decode cX6_beginWriter 0 = .ok (.aload_n 0, 1) := by decide +kernel
theorem dX6_beginWriter_1 : decode cX6_beginWriter 1 = .ok (.invokevirtual 122, 3) := by decide +kernel
theorem dX6_beginWriter_4 : decode cX6_beginWriter 4 = .ok (.istore_n 1, 1) := by decide +kernel
theorem dX6_beginWriter_5 : decode cX6_beginWriter 5 = .ok (.iload_n 1, 1) := by decide +kernel
theorem dX6_beginWriter_6 : decode cX6_beginWriter 6 = .ok (.bipush (-2), 2) := by decide +kernel
theorem dX6_beginWriter_8 : decode cX6_beginWriter 8 = .ok (.if_icmp .ne 6, 3) := by decide +kernel
theorem dX6_beginWriter_11 : decode cX6_beginWriter 11 = .ok (.bipush (-2), 2) := by decide +kernel
theorem dX6_beginWriter_13 : decode cX6_beginWriter 13 = .ok (.ireturn, 1) := by decide +kernel
theorem dX6_beginWriter_14 : decode cX6_beginWriter 14 = .ok (.lconst 1, 1) := by decide +kernel
theorem dX6_beginWriter_15 : decode cX6_beginWriter 15 = .ok (.aload_n 0, 1) := by decide +kernel
theorem dX6_beginWriter_16 : decode cX6_beginWriter 16 = .ok (.getfield 50, 3) := by decide +kernel
theorem dX6_beginWriter_19 : decode cX6_beginWriter 19 = .ok (.lshl, 1) := by decide +kernel
theorem dX6_beginWriter_20 : decode cX6_beginWriter 20 = .ok (.lstore_n 2, 1) := by decide +kernel
theorem dX6_beginWriter_21 : decode cX6_beginWriter 21 = .ok (.aload_n 0, 1) := by decide +kernel
theorem dX6_beginWriter_22 : decode cX6_beginWriter 22 = .ok (.getfield 15, 3) := by decide +kernel
theorem dX6_beginWriter_25 : decode cX6_beginWriter 25 = .ok (.iload_n 1, 1) := by decide +kernel
theorem dX6_beginWriter_26 : decode cX6_beginWriter 26 = .ok (.aload_n 0, 1) := by decide +kernel
theorem dX6_beginWriter_27 : decode cX6_beginWriter 27 = .ok (.getfield 59, 3) := by decide +kernel
theorem dX6_beginWriter_30 : decode cX6_beginWriter 30 = .ok (.lload_n 2, 1) := by decide +kernel
theorem dX6_beginWriter_31 : decode cX6_beginWriter 31 = .ok (.lor, 1) := by decide +kernel
theorem dX6_beginWriter_32 : decode cX6_beginWriter 32 = .ok (.lastore, 1) := by decide +kernel
theorem dX6_beginWriter_33 : decode cX6_beginWriter 33 = .ok (.aload_n 0, 1) := by decide +kernel
theorem dX6_beginWriter_34 : decode cX6_beginWriter 34 = .ok (.getfield 9, 3) := by decide +kernel
theorem dX6_beginWriter_37 : decode cX6_beginWriter 37 = .ok (.iload_n 1, 1) := by decide +kernel
theorem dX6_beginWriter_38 : decode cX6_beginWriter 38 = .ok (.aload_n 0, 1) := by decide +kernel
theorem dX6_beginWriter_39 : decode cX6_beginWriter 39 = .ok (.getfield 50, 3) := by decide +kernel
theorem dX6_beginWriter_42 : decode cX6_beginWriter 42 = .ok (.iastore, 1) := by decide +kernel
theorem dX6_beginWriter_43 : decode cX6_beginWriter 43 = .ok (.aload_n 0, 1) := by decide +kernel
theorem dX6_beginWriter_44 : decode cX6_beginWriter 44 = .ok (.dup, 1) := by decide +kernel
theorem dX6_beginWriter_45 : decode cX6_beginWriter 45 = .ok (.getfield 56, 3) := by decide +kernel
theorem dX6_beginWriter_48 : decode cX6_beginWriter 48 = .ok (.iconst 1, 1) := by decide +kernel
theorem dX6_beginWriter_49 : decode cX6_beginWriter 49 = .ok (.iload_n 1, 1) := by decide +kernel
theorem dX6_beginWriter_50 : decode cX6_beginWriter 50 = .ok (.ishl, 1) := by decide +kernel
theorem dX6_beginWriter_51 : decode cX6_beginWriter 51 = .ok (.iconst (-1), 1) := by decide +kernel
theorem dX6_beginWriter_52 : decode cX6_beginWriter 52 = .ok (.ixor, 1) := by decide +kernel
theorem dX6_beginWriter_53 : decode cX6_beginWriter 53 = .ok (.iand, 1) := by decide +kernel
theorem dX6_beginWriter_54 : decode cX6_beginWriter 54 = .ok (.putfield 56, 3) := by decide +kernel
theorem dX6_beginWriter_57 : decode cX6_beginWriter 57 = .ok (.aload_n 0, 1) := by decide +kernel
theorem dX6_beginWriter_58 : decode cX6_beginWriter 58 = .ok (.dup, 1) := by decide +kernel
theorem dX6_beginWriter_59 : decode cX6_beginWriter 59 = .ok (.getfield 59, 3) := by decide +kernel
theorem dX6_beginWriter_62 : decode cX6_beginWriter 62 = .ok (.lload_n 2, 1) := by decide +kernel
theorem dX6_beginWriter_63 : decode cX6_beginWriter 63 = .ok (.lor, 1) := by decide +kernel
theorem dX6_beginWriter_64 : decode cX6_beginWriter 64 = .ok (.putfield 59, 3) := by decide +kernel
theorem dX6_beginWriter_67 : decode cX6_beginWriter 67 = .ok (.aload_n 0, 1) := by decide +kernel
theorem dX6_beginWriter_68 : decode cX6_beginWriter 68 = .ok (.dup, 1) := by decide +kernel
theorem dX6_beginWriter_69 : decode cX6_beginWriter 69 = .ok (.getfield 63, 3) := by decide +kernel
theorem dX6_beginWriter_72 : decode cX6_beginWriter 72 = .ok (.lload_n 2, 1) := by decide +kernel
theorem dX6_beginWriter_73 : decode cX6_beginWriter 73 = .ok (.ldc2_w 116, 3) := by decide +kernel
theorem dX6_beginWriter_76 : decode cX6_beginWriter 76 = .ok (.lxor, 1) := by decide +kernel
theorem dX6_beginWriter_77 : decode cX6_beginWriter 77 = .ok (.land, 1) := by decide +kernel
theorem dX6_beginWriter_78 : decode cX6_beginWriter 78 = .ok (.putfield 63, 3) := by decide +kernel
theorem dX6_beginWriter_81 : decode cX6_beginWriter 81 = .ok (.aload_n 0, 1) := by decide +kernel
theorem dX6_beginWriter_82 : decode cX6_beginWriter 82 = .ok (.dup, 1) := by decide +kernel
theorem dX6_beginWriter_83 : decode cX6_beginWriter 83 = .ok (.getfield 66, 3) := by decide +kernel
theorem dX6_beginWriter_86 : decode cX6_beginWriter 86 = .ok (.lload_n 2, 1) := by decide +kernel
theorem dX6_beginWriter_87 : decode cX6_beginWriter 87 = .ok (.ldc2_w 116, 3) := by decide +kernel
theorem dX6_beginWriter_90 : decode cX6_beginWriter 90 = .ok (.lxor, 1) := by decide +kernel
theorem dX6_beginWriter_91 : decode cX6_beginWriter 91 = .ok (.land, 1) := by decide +kernel
theorem dX6_beginWriter_92 : decode cX6_beginWriter 92 = .ok (.putfield 66, 3) := by decide +kernel
theorem dX6_beginWriter_95 : decode cX6_beginWriter 95 = .ok (.aload_n 0, 1) := by decide +kernel
theorem dX6_beginWriter_96 : decode cX6_beginWriter 96 = .ok (.aload_n 0, 1) := by decide +kernel
theorem dX6_beginWriter_97 : decode cX6_beginWriter 97 = .ok (.getfield 50, 3) := by decide +kernel
theorem dX6_beginWriter_100 : decode cX6_beginWriter 100 = .ok (.iconst 1, 1) := by decide +kernel
theorem dX6_beginWriter_101 : decode cX6_beginWriter 101 = .ok (.iadd, 1) := by decide +kernel
theorem dX6_beginWriter_102 : decode cX6_beginWriter 102 = .ok (.aload_n 0, 1) := by decide +kernel
theorem dX6_beginWriter_103 : decode cX6_beginWriter 103 = .ok (.getfield 40, 3) := by decide +kernel
theorem dX6_beginWriter_106 : decode cX6_beginWriter 106 = .ok (.if_icmp .ge 12, 3) := by decide +kernel
theorem dX6_beginWriter_109 : decode cX6_beginWriter 109 = .ok (.aload_n 0, 1) := by decide +kernel
theorem dX6_beginWriter_110 : decode cX6_beginWriter 110 = .ok (.getfield 50, 3) := by decide +kernel
theorem dX6_beginWriter_113 : decode cX6_beginWriter 113 = .ok (.iconst 1, 1) := by decide +kernel
theorem dX6_beginWriter_114 : decode cX6_beginWriter 114 = .ok (.iadd, 1) := by decide +kernel
theorem dX6_beginWriter_115 : decode cX6_beginWriter 115 = .ok (.goto 4, 3) := by decide +kernel
theorem dX6_beginWriter_118 : decode cX6_beginWriter 118 = .ok (.iconst 0, 1) := by decide +kernel
theorem dX6_beginWriter_119 : decode cX6_beginWriter 119 = .ok (.putfield 50, 3) := by decide +kernel
theorem dX6_beginWriter_122 : decode cX6_beginWriter 122 = .ok (.iload_n 1, 1) := by decide +kernel
theorem dX6_beginWriter_123 : decode cX6_beginWriter 123 = .ok (.ireturn, 1) := by decide +kernel
theorem dX6_firstFreeNumber_0 : decode cX6_firstFreeNumber 0 = .ok (.iconst 0, 1) := by decide +kernel
theorem dX6_firstFreeNumber_1 : decode cX6_firstFreeNumber 1 = .ok (.istore_n 1, 1) := by decide +kernel
theorem dX6_firstFreeNumber_2 : decode cX6_firstFreeNumber 2 = .ok (.iload_n 1, 1) := by decide +kernel
theorem dX6_firstFreeNumber_3 : decode cX6_firstFreeNumber 3 = .ok (.bipush 48, 2) := by decide +kernel
theorem dX6_firstFreeNumber_5 : decode cX6_firstFreeNumber 5 = .ok (.if_icmp .ge 22, 3) := by decide +kernel
theorem dX6_firstFreeNumber_8 : decode cX6_firstFreeNumber 8 = .ok (.aload_n 0, 1) := by decide +kernel
theorem dX6_firstFreeNumber_9 : decode cX6_firstFreeNumber 9 = .ok (.getfield 19, 3) := by decide +kernel
theorem dX6_firstFreeNumber_12 : decode cX6_firstFreeNumber 12 = .ok (.iload_n 1, 1) := by decide +kernel
theorem dX6_firstFreeNumber_13 : decode cX6_firstFreeNumber 13 = .ok (.iaload, 1) := by decide +kernel
theorem dX6_firstFreeNumber_14 : decode cX6_firstFreeNumber 14 = .ok (.bipush (-2), 2) := by decide +kernel
theorem dX6_firstFreeNumber_16 : decode cX6_firstFreeNumber 16 = .ok (.if_icmp .ne 5, 3) := by decide +kernel
theorem dX6_firstFreeNumber_19 : decode cX6_firstFreeNumber 19 = .ok (.iload_n 1, 1) := by decide +kernel
theorem dX6_firstFreeNumber_20 : decode cX6_firstFreeNumber 20 = .ok (.ireturn, 1) := by decide +kernel
theorem dX6_firstFreeNumber_21 : decode cX6_firstFreeNumber 21 = .ok (.iinc 1 1, 3) := by decide +kernel
theorem dX6_firstFreeNumber_24 : decode cX6_firstFreeNumber 24 = .ok (.goto (-22), 3) := by decide +kernel
theorem dX6_firstFreeNumber_27 : decode cX6_firstFreeNumber 27 = .ok (.bipush (-2), 2) := by decide +kernel
theorem dX6_firstFreeNumber_29 : decode cX6_firstFreeNumber 29 = .ok (.ireturn, 1) := by decide +kernel
theorem dX6_makeVersion_0 : decode cX6_makeVersion 0 = .ok (.aload_n 0, 1) := by decide +kernel
theorem dX6_makeVersion_1 : decode cX6_makeVersion 1 = .ok (.invokevirtual 179, 3) := by decide +kernel
theorem dX6_makeVersion_4 : decode cX6_makeVersion 4 = .ok (.istore 4, 2) := by decide +kernel
theorem dX6_makeVersion_6 : decode cX6_makeVersion 6 = .ok (.iload 4, 2) := by decide +kernel
theorem dX6_makeVersion_8 : decode cX6_makeVersion 8 = .ok (.bipush (-2), 2) := by decide +kernel
theorem dX6_makeVersion_10 : decode cX6_makeVersion 10 = .ok (.if_icmp .eq 12, 3) := by decide +kernel
theorem dX6_makeVersion_13 : decode cX6_makeVersion 13 = .ok (.aload_n 0, 1) := by decide +kernel
theorem dX6_makeVersion_14 : decode cX6_makeVersion 14 = .ok (.getfield 53, 3) := by decide +kernel
theorem dX6_makeVersion_17 : decode cX6_makeVersion 17 = .ok (.bipush 48, 2) := by decide +kernel
theorem dX6_makeVersion_19 : decode cX6_makeVersion 19 = .ok (.if_icmp .lt 6, 3) := by decide +kernel
theorem dX6_makeVersion_22 : decode cX6_makeVersion 22 = .ok (.bipush (-2), 2) := by decide +kernel
theorem dX6_makeVersion_24 : decode cX6_makeVersion 24 = .ok (.ireturn, 1) := by decide +kernel
theorem dX6_makeVersion_25 : decode cX6_makeVersion 25 = .ok (.aload_n 0, 1) := by decide +kernel
theorem dX6_makeVersion_26 : decode cX6_makeVersion 26 = .ok (.getfield 19, 3) := by decide +kernel
theorem dX6_makeVersion_29 : decode cX6_makeVersion 29 = .ok (.iload 4, 2) := by decide +kernel
theorem dX6_makeVersion_31 : decode cX6_makeVersion 31 = .ok (.iload_n 1, 1) := by decide +kernel
theorem dX6_makeVersion_32 : decode cX6_makeVersion 32 = .ok (.iastore, 1) := by decide +kernel
theorem dX6_makeVersion_33 : decode cX6_makeVersion 33 = .ok (.aload_n 0, 1) := by decide +kernel
theorem dX6_makeVersion_34 : decode cX6_makeVersion 34 = .ok (.getfield 22, 3) := by decide +kernel
theorem dX6_makeVersion_37 : decode cX6_makeVersion 37 = .ok (.iload 4, 2) := by decide +kernel
theorem dX6_makeVersion_39 : decode cX6_makeVersion 39 = .ok (.iload_n 2, 1) := by decide +kernel
theorem dX6_makeVersion_40 : decode cX6_makeVersion 40 = .ok (.iastore, 1) := by decide +kernel
theorem dX6_makeVersion_41 : decode cX6_makeVersion 41 = .ok (.aload_n 0, 1) := by decide +kernel
theorem dX6_makeVersion_42 : decode cX6_makeVersion 42 = .ok (.getfield 25, 3) := by decide +kernel
theorem dX6_makeVersion_45 : decode cX6_makeVersion 45 = .ok (.iload 4, 2) := by decide +kernel
theorem dX6_makeVersion_47 : decode cX6_makeVersion 47 = .ok (.iload_n 3, 1) := by decide +kernel
theorem dX6_makeVersion_48 : decode cX6_makeVersion 48 = .ok (.iastore, 1) := by decide +kernel
theorem dX6_makeVersion_49 : decode cX6_makeVersion 49 = .ok (.aload_n 0, 1) := by decide +kernel
theorem dX6_makeVersion_50 : decode cX6_makeVersion 50 = .ok (.getfield 28, 3) := by decide +kernel
theorem dX6_makeVersion_53 : decode cX6_makeVersion 53 = .ok (.iload 4, 2) := by decide +kernel
theorem dX6_makeVersion_55 : decode cX6_makeVersion 55 = .ok (.bipush (-2), 2) := by decide +kernel
theorem dX6_makeVersion_57 : decode cX6_makeVersion 57 = .ok (.iastore, 1) := by decide +kernel
theorem dX6_makeVersion_58 : decode cX6_makeVersion 58 = .ok (.aload_n 0, 1) := by decide +kernel
theorem dX6_makeVersion_59 : decode cX6_makeVersion 59 = .ok (.getfield 31, 3) := by decide +kernel
theorem dX6_makeVersion_62 : decode cX6_makeVersion 62 = .ok (.aload_n 0, 1) := by decide +kernel
theorem dX6_makeVersion_63 : decode cX6_makeVersion 63 = .ok (.getfield 53, 3) := by decide +kernel
theorem dX6_makeVersion_66 : decode cX6_makeVersion 66 = .ok (.iload 4, 2) := by decide +kernel
theorem dX6_makeVersion_68 : decode cX6_makeVersion 68 = .ok (.iastore, 1) := by decide +kernel
theorem dX6_makeVersion_69 : decode cX6_makeVersion 69 = .ok (.aload_n 0, 1) := by decide +kernel
theorem dX6_makeVersion_70 : decode cX6_makeVersion 70 = .ok (.dup, 1) := by decide +kernel
theorem dX6_makeVersion_71 : decode cX6_makeVersion 71 = .ok (.getfield 53, 3) := by decide +kernel
theorem dX6_makeVersion_74 : decode cX6_makeVersion 74 = .ok (.iconst 1, 1) := by decide +kernel
theorem dX6_makeVersion_75 : decode cX6_makeVersion 75 = .ok (.iadd, 1) := by decide +kernel
theorem dX6_makeVersion_76 : decode cX6_makeVersion 76 = .ok (.putfield 53, 3) := by decide +kernel
theorem dX6_makeVersion_79 : decode cX6_makeVersion 79 = .ok (.iload 4, 2) := by decide +kernel
theorem dX6_makeVersion_81 : decode cX6_makeVersion 81 = .ok (.ireturn, 1) := by decide +kernel
theorem dX6_isOwn_0 : decode cX6_isOwn 0 = .ok (.aload_n 0, 1) := by decide +kernel
theorem dX6_isOwn_1 : decode cX6_isOwn 1 = .ok (.iload_n 2, 1) := by decide +kernel
theorem dX6_isOwn_2 : decode cX6_isOwn 2 = .ok (.invokevirtual 102, 3) := by decide +kernel
theorem dX6_isOwn_5 : decode cX6_isOwn 5 = .ok (.ifCond .eq 21, 3) := by decide +kernel
theorem dX6_isOwn_8 : decode cX6_isOwn 8 = .ok (.aload_n 0, 1) := by decide +kernel
theorem dX6_isOwn_9 : decode cX6_isOwn 9 = .ok (.getfield 25, 3) := by decide +kernel
theorem dX6_isOwn_12 : decode cX6_isOwn 12 = .ok (.iload_n 2, 1) := by decide +kernel
theorem dX6_isOwn_13 : decode cX6_isOwn 13 = .ok (.iaload, 1) := by decide +kernel
theorem dX6_isOwn_14 : decode cX6_isOwn 14 = .ok (.aload_n 0, 1) := by decide +kernel
theorem dX6_isOwn_15 : decode cX6_isOwn 15 = .ok (.iload_n 1, 1) := by decide +kernel
theorem dX6_isOwn_16 : decode cX6_isOwn 16 = .ok (.invokevirtual 146, 3) := by decide +kernel
theorem dX6_isOwn_19 : decode cX6_isOwn 19 = .ok (.if_icmp .ne 7, 3) := by decide +kernel
theorem dX6_isOwn_22 : decode cX6_isOwn 22 = .ok (.iconst 1, 1) := by decide +kernel
theorem dX6_isOwn_23 : decode cX6_isOwn 23 = .ok (.goto 4, 3) := by decide +kernel
theorem dX6_isOwn_26 : decode cX6_isOwn 26 = .ok (.iconst 0, 1) := by decide +kernel
theorem dX6_isOwn_27 : decode cX6_isOwn 27 = .ok (.ireturn, 1) := by decide +kernel
theorem dX6_putTrouble_0 : decode cX6_putTrouble 0 = .ok (.aload_n 0, 1) := by decide +kernel
theorem dX6_putTrouble_1 : decode cX6_putTrouble 1 = .ok (.iload_n 1, 1) := by decide +kernel
theorem dX6_putTrouble_2 : decode cX6_putTrouble 2 = .ok (.iload_n 2, 1) := by decide +kernel
theorem dX6_putTrouble_3 : decode cX6_putTrouble 3 = .ok (.invokevirtual 169, 3) := by decide +kernel
theorem dX6_putTrouble_6 : decode cX6_putTrouble 6 = .ok (.istore_n 3, 1) := by decide +kernel
theorem dX6_putTrouble_7 : decode cX6_putTrouble 7 = .ok (.iload_n 3, 1) := by decide +kernel
theorem dX6_putTrouble_8 : decode cX6_putTrouble 8 = .ok (.iconst 1, 1) := by decide +kernel
theorem dX6_putTrouble_9 : decode cX6_putTrouble 9 = .ok (.if_icmp .eq 8, 3) := by decide +kernel
theorem dX6_putTrouble_12 : decode cX6_putTrouble 12 = .ok (.iload_n 3, 1) := by decide +kernel
theorem dX6_putTrouble_13 : decode cX6_putTrouble 13 = .ok (.iconst 3, 1) := by decide +kernel
theorem dX6_putTrouble_14 : decode cX6_putTrouble 14 = .ok (.if_icmp .ne 5, 3) := by decide +kernel
theorem dX6_putTrouble_17 : decode cX6_putTrouble 17 = .ok (.iconst 5, 1) := by decide +kernel
theorem dX6_putTrouble_18 : decode cX6_putTrouble 18 = .ok (.ireturn, 1) := by decide +kernel
theorem dX6_putTrouble_19 : decode cX6_putTrouble 19 = .ok (.iload_n 3, 1) := by decide +kernel
theorem dX6_putTrouble_20 : decode cX6_putTrouble 20 = .ok (.iconst 2, 1) := by decide +kernel
theorem dX6_putTrouble_21 : decode cX6_putTrouble 21 = .ok (.if_icmp .eq 12, 3) := by decide +kernel
theorem dX6_putTrouble_24 : decode cX6_putTrouble 24 = .ok (.aload_n 0, 1) := by decide +kernel
theorem dX6_putTrouble_25 : decode cX6_putTrouble 25 = .ok (.invokevirtual 179, 3) := by decide +kernel
theorem dX6_putTrouble_28 : decode cX6_putTrouble 28 = .ok (.bipush (-2), 2) := by decide +kernel
theorem dX6_putTrouble_30 : decode cX6_putTrouble 30 = .ok (.if_icmp .eq 5, 3) := by decide +kernel
theorem dX6_putTrouble_33 : decode cX6_putTrouble 33 = .ok (.iconst 0, 1) := by decide +kernel
theorem dX6_putTrouble_34 : decode cX6_putTrouble 34 = .ok (.ireturn, 1) := by decide +kernel
theorem dX6_putTrouble_35 : decode cX6_putTrouble 35 = .ok (.aload_n 0, 1) := by decide +kernel
theorem dX6_putTrouble_36 : decode cX6_putTrouble 36 = .ok (.iload_n 1, 1) := by decide +kernel
theorem dX6_putTrouble_37 : decode cX6_putTrouble 37 = .ok (.aload_n 0, 1) := by decide +kernel
theorem dX6_putTrouble_38 : decode cX6_putTrouble 38 = .ok (.iload_n 2, 1) := by decide +kernel
theorem dX6_putTrouble_39 : decode cX6_putTrouble 39 = .ok (.aload_n 0, 1) := by decide +kernel
theorem dX6_putTrouble_40 : decode cX6_putTrouble 40 = .ok (.iload_n 1, 1) := by decide +kernel
theorem dX6_putTrouble_41 : decode cX6_putTrouble 41 = .ok (.invokevirtual 163, 3) := by decide +kernel
theorem dX6_putTrouble_44 : decode cX6_putTrouble 44 = .ok (.invokevirtual 153, 3) := by decide +kernel
theorem dX6_putTrouble_47 : decode cX6_putTrouble 47 = .ok (.invokevirtual 182, 3) := by decide +kernel
theorem dX6_putTrouble_50 : decode cX6_putTrouble 50 = .ok (.ifCond .eq 7, 3) := by decide +kernel
theorem dX6_putTrouble_53 : decode cX6_putTrouble 53 = .ok (.iconst 0, 1) := by decide +kernel
theorem dX6_putTrouble_54 : decode cX6_putTrouble 54 = .ok (.goto 4, 3) := by decide +kernel
theorem dX6_putTrouble_57 : decode cX6_putTrouble 57 = .ok (.iconst 3, 1) := by decide +kernel
theorem dX6_putTrouble_58 : decode cX6_putTrouble 58 = .ok (.ireturn, 1) := by decide +kernel
theorem dX6_putValue_0 : decode cX6_putValue 0 = .ok (.aload_n 0, 1) := by decide +kernel
theorem dX6_putValue_1 : decode cX6_putValue 1 = .ok (.iload_n 1, 1) := by decide +kernel
theorem dX6_putValue_2 : decode cX6_putValue 2 = .ok (.iload_n 2, 1) := by decide +kernel
theorem dX6_putValue_3 : decode cX6_putValue 3 = .ok (.invokevirtual 169, 3) := by decide +kernel
theorem dX6_putValue_6 : decode cX6_putValue 6 = .ok (.ifCond .eq 18, 3) := by decide +kernel
theorem dX6_putValue_9 : decode cX6_putValue 9 = .ok (.aload_n 0, 1) := by decide +kernel
theorem dX6_putValue_10 : decode cX6_putValue 10 = .ok (.dup, 1) := by decide +kernel
theorem dX6_putValue_11 : decode cX6_putValue 11 = .ok (.getfield 56, 3) := by decide +kernel
theorem dX6_putValue_14 : decode cX6_putValue 14 = .ok (.iconst 1, 1) := by decide +kernel
theorem dX6_putValue_15 : decode cX6_putValue 15 = .ok (.iload_n 1, 1) := by decide +kernel
theorem dX6_putValue_16 : decode cX6_putValue 16 = .ok (.ishl, 1) := by decide +kernel
theorem dX6_putValue_17 : decode cX6_putValue 17 = .ok (.ior, 1) := by decide +kernel
theorem dX6_putValue_18 : decode cX6_putValue 18 = .ok (.putfield 56, 3) := by decide +kernel
theorem dX6_putValue_21 : decode cX6_putValue 21 = .ok (.bipush (-2), 2) := by decide +kernel
theorem dX6_putValue_23 : decode cX6_putValue 23 = .ok (.ireturn, 1) := by decide +kernel
theorem dX6_putValue_24 : decode cX6_putValue 24 = .ok (.aload_n 0, 1) := by decide +kernel
theorem dX6_putValue_25 : decode cX6_putValue 25 = .ok (.iload_n 2, 1) := by decide +kernel
theorem dX6_putValue_26 : decode cX6_putValue 26 = .ok (.aload_n 0, 1) := by decide +kernel
theorem dX6_putValue_27 : decode cX6_putValue 27 = .ok (.iload_n 1, 1) := by decide +kernel
theorem dX6_putValue_28 : decode cX6_putValue 28 = .ok (.invokevirtual 163, 3) := by decide +kernel
theorem dX6_putValue_31 : decode cX6_putValue 31 = .ok (.invokevirtual 153, 3) := by decide +kernel
theorem dX6_putValue_34 : decode cX6_putValue 34 = .ok (.istore 4, 2) := by decide +kernel
