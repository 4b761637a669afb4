theorem dX9_asOf_1 : decode cX9_asOf 1 = .ok (.getfield 19, 3) := by decide +kernel
theorem dX9_asOf_4 : decode cX9_asOf 4 = .ok (.iload_n 2, 1) := by decide +kernel
theorem dX9_asOf_5 : decode cX9_asOf 5 = .ok (.invokevirtual 196, 3) := by decide +kernel
theorem dX9_asOf_8 : decode cX9_asOf 8 = .ok (.ifCond .ne 9, 3) := by decide +kernel
theorem dX9_asOf_11 : decode cX9_asOf 11 = .ok (.aload_n 0, 1) := by decide +kernel
theorem dX9_asOf_12 : decode cX9_asOf 12 = .ok (.iconst 1, 1) := by decide +kernel
theorem dX9_asOf_13 : decode cX9_asOf 13 = .ok (.invokevirtual 51, 3) := by decide +kernel
theorem dX9_asOf_16 : decode cX9_asOf 16 = .ok (.ireturn, 1) := by decide +kernel
theorem dX9_asOf_17 : decode cX9_asOf 17 = .ok (.aload_n 0, 1) := by decide +kernel
theorem dX9_asOf_18 : decode cX9_asOf 18 = .ok (.getfield 19, 3) := by decide +kernel
theorem dX9_asOf_21 : decode cX9_asOf 21 = .ok (.iload_n 1, 1) := by decide +kernel
theorem dX9_asOf_22 : decode cX9_asOf 22 = .ok (.invokevirtual 163, 3) := by decide +kernel
theorem dX9_asOf_25 : decode cX9_asOf 25 = .ok (.ifCond .ne 9, 3) := by decide +kernel
theorem dX9_asOf_28 : decode cX9_asOf 28 = .ok (.aload_n 0, 1) := by decide +kernel
theorem dX9_asOf_29 : decode cX9_asOf 29 = .ok (.iconst 2, 1) := by decide +kernel
theorem dX9_asOf_30 : decode cX9_asOf 30 = .ok (.invokevirtual 51, 3) := by decide +kernel
theorem dX9_asOf_33 : decode cX9_asOf 33 = .ok (.ireturn, 1) := by decide +kernel
theorem dX9_asOf_34 : decode cX9_asOf 34 = .ok (.aload_n 0, 1) := by decide +kernel
theorem dX9_asOf_35 : decode cX9_asOf 35 = .ok (.aload_n 0, 1) := by decide +kernel
theorem dX9_asOf_36 : decode cX9_asOf 36 = .ok (.getfield 19, 3) := by decide +kernel
theorem dX9_asOf_39 : decode cX9_asOf 39 = .ok (.iload_n 2, 1) := by decide +kernel
theorem dX9_asOf_40 : decode cX9_asOf 40 = .ok (.aload_n 0, 1) := by decide +kernel
theorem dX9_asOf_41 : decode cX9_asOf 41 = .ok (.getfield 19, 3) := by decide +kernel
theorem dX9_asOf_44 : decode cX9_asOf 44 = .ok (.iload_n 1, 1) := by decide +kernel
theorem dX9_asOf_45 : decode cX9_asOf 45 = .ok (.invokevirtual 228, 3) := by decide +kernel
theorem dX9_asOf_48 : decode cX9_asOf 48 = .ok (.invokevirtual 216, 3) := by decide +kernel
theorem dX9_asOf_51 : decode cX9_asOf 51 = .ok (.invokevirtual 89, 3) := by decide +kernel
theorem dX9_asOf_54 : decode cX9_asOf 54 = .ok (.ireturn, 1) := by decide +kernel
theorem dX9_changed_0 : decode cX9_changed 0 = .ok (.aload_n 0, 1) := by decide +kernel
theorem dX9_changed_1 : decode cX9_changed 1 = .ok (.iload_n 1, 1) := by decide +kernel
theorem dX9_changed_2 : decode cX9_changed 2 = .ok (.iload_n 2, 1) := by decide +kernel
theorem dX9_changed_3 : decode cX9_changed 3 = .ok (.invokevirtual 108, 3) := by decide +kernel
theorem dX9_changed_6 : decode cX9_changed 6 = .ok (.istore_n 3, 1) := by decide +kernel
theorem dX9_changed_7 : decode cX9_changed 7 = .ok (.iload_n 3, 1) := by decide +kernel
theorem dX9_changed_8 : decode cX9_changed 8 = .ok (.ifCond .eq 9, 3) := by decide +kernel
theorem dX9_changed_11 : decode cX9_changed 11 = .ok (.aload_n 0, 1) := by decide +kernel
theorem dX9_changed_12 : decode cX9_changed 12 = .ok (.iload_n 3, 1) := by decide +kernel
theorem dX9_changed_13 : decode cX9_changed 13 = .ok (.invokevirtual 51, 3) := by decide +kernel
theorem dX9_changed_16 : decode cX9_changed 16 = .ok (.ireturn, 1) := by decide +kernel
theorem dX9_changed_17 : decode cX9_changed 17 = .ok (.aload_n 0, 1) := by decide +kernel
theorem dX9_changed_18 : decode cX9_changed 18 = .ok (.getfield 19, 3) := by decide +kernel
theorem dX9_changed_21 : decode cX9_changed 21 = .ok (.iload_n 1, 1) := by decide +kernel
theorem dX9_changed_22 : decode cX9_changed 22 = .ok (.invokevirtual 228, 3) := by decide +kernel
theorem dX9_changed_25 : decode cX9_changed 25 = .ok (.lstore 4, 2) := by decide +kernel
theorem dX9_changed_27 : decode cX9_changed 27 = .ok (.aload_n 0, 1) := by decide +kernel
theorem dX9_changed_28 : decode cX9_changed 28 = .ok (.getfield 19, 3) := by decide +kernel
theorem dX9_changed_31 : decode cX9_changed 31 = .ok (.iload_n 2, 1) := by decide +kernel
theorem dX9_changed_32 : decode cX9_changed 32 = .ok (.invokevirtual 228, 3) := by decide +kernel
theorem dX9_changed_35 : decode cX9_changed 35 = .ok (.lstore 6, 2) := by decide +kernel
theorem dX9_changed_37 : decode cX9_changed 37 = .ok (.iconst 0, 1) := by decide +kernel
theorem dX9_changed_38 : decode cX9_changed 38 = .ok (.istore 8, 2) := by decide +kernel
theorem dX9_changed_40 : decode cX9_changed 40 = .ok (.iconst 0, 1) := by decide +kernel
theorem dX9_changed_41 : decode cX9_changed 41 = .ok (.istore 9, 2) := by decide +kernel
theorem dX9_changed_43 : decode cX9_changed 43 = .ok (.iload 9, 2) := by decide +kernel
theorem dX9_changed_45 : decode cX9_changed 45 = .ok (.aload_n 0, 1) := by decide +kernel
theorem dX9_changed_46 : decode cX9_changed 46 = .ok (.getfield 19, 3) := by decide +kernel
theorem dX9_changed_49 : decode cX9_changed 49 = .ok (.getfield 222, 3) := by decide +kernel
theorem dX9_changed_52 : decode cX9_changed 52 = .ok (.if_icmp .ge 43, 3) := by decide +kernel
theorem dX9_changed_55 : decode cX9_changed 55 = .ok (.aload_n 0, 1) := by decide +kernel
theorem dX9_changed_56 : decode cX9_changed 56 = .ok (.getfield 19, 3) := by decide +kernel
theorem dX9_changed_59 : decode cX9_changed 59 = .ok (.iload 9, 2) := by decide +kernel
theorem dX9_changed_61 : decode cX9_changed 61 = .ok (.lload 4, 2) := by decide +kernel
theorem dX9_changed_63 : decode cX9_changed 63 = .ok (.invokevirtual 216, 3) := by decide +kernel
theorem dX9_changed_66 : decode cX9_changed 66 = .ok (.aload_n 0, 1) := by decide +kernel
theorem dX9_changed_67 : decode cX9_changed 67 = .ok (.getfield 19, 3) := by decide +kernel
theorem dX9_changed_70 : decode cX9_changed 70 = .ok (.iload 9, 2) := by decide +kernel
theorem dX9_changed_72 : decode cX9_changed 72 = .ok (.lload 6, 2) := by decide +kernel
theorem dX9_changed_74 : decode cX9_changed 74 = .ok (.invokevirtual 216, 3) := by decide +kernel
theorem dX9_changed_77 : decode cX9_changed 77 = .ok (.if_icmp .eq 12, 3) := by decide +kernel
theorem dX9_changed_80 : decode cX9_changed 80 = .ok (.iload 8, 2) := by decide +kernel
theorem dX9_changed_82 : decode cX9_changed 82 = .ok (.iconst 1, 1) := by decide +kernel
theorem dX9_changed_83 : decode cX9_changed 83 = .ok (.iload 9, 2) := by decide +kernel
theorem dX9_changed_85 : decode cX9_changed 85 = .ok (.ishl, 1) := by decide +kernel
theorem dX9_changed_86 : decode cX9_changed 86 = .ok (.ior, 1) := by decide +kernel
theorem dX9_changed_87 : decode cX9_changed 87 = .ok (.istore 8, 2) := by decide +kernel
theorem dX9_changed_89 : decode cX9_changed 89 = .ok (.iinc 9 1, 3) := by decide +kernel
theorem dX9_changed_92 : decode cX9_changed 92 = .ok (.goto (-49), 3) := by decide +kernel
theorem dX9_changed_95 : decode cX9_changed 95 = .ok (.aload_n 0, 1) := by decide +kernel
theorem dX9_changed_96 : decode cX9_changed 96 = .ok (.iload 8, 2) := by decide +kernel
theorem dX9_changed_98 : decode cX9_changed 98 = .ok (.invokevirtual 89, 3) := by decide +kernel
theorem dX9_changed_101 : decode cX9_changed 101 = .ok (.ireturn, 1) := by decide +kernel
theorem dX9_may_0 : decode cX9_may 0 = .ok (.aload_n 0, 1) := by decide +kernel
theorem dX9_may_1 : decode cX9_may 1 = .ok (.getfield 19, 3) := by decide +kernel
theorem dX9_may_4 : decode cX9_may 4 = .ok (.iload_n 1, 1) := by decide +kernel
theorem dX9_may_5 : decode cX9_may 5 = .ok (.invokevirtual 141, 3) := by decide +kernel
theorem dX9_may_8 : decode cX9_may 8 = .ok (.ifCond .eq 14, 3) := by decide +kernel
theorem dX9_may_11 : decode cX9_may 11 = .ok (.aload_n 0, 1) := by decide +kernel
theorem dX9_may_12 : decode cX9_may 12 = .ok (.getfield 19, 3) := by decide +kernel
theorem dX9_may_15 : decode cX9_may 15 = .ok (.iload_n 2, 1) := by decide +kernel
theorem dX9_may_16 : decode cX9_may 16 = .ok (.invokevirtual 196, 3) := by decide +kernel
theorem dX9_may_19 : decode cX9_may 19 = .ok (.ifCond .ne 9, 3) := by decide +kernel
theorem dX9_may_22 : decode cX9_may 22 = .ok (.aload_n 0, 1) := by decide +kernel
theorem dX9_may_23 : decode cX9_may 23 = .ok (.iconst 1, 1) := by decide +kernel
theorem dX9_may_24 : decode cX9_may 24 = .ok (.invokevirtual 51, 3) := by decide +kernel
theorem dX9_may_27 : decode cX9_may 27 = .ok (.ireturn, 1) := by decide +kernel
theorem dX9_may_28 : decode cX9_may 28 = .ok (.aload_n 0, 1) := by decide +kernel
theorem dX9_may_29 : decode cX9_may 29 = .ok (.aload_n 0, 1) := by decide +kernel
theorem dX9_may_30 : decode cX9_may 30 = .ok (.getfield 19, 3) := by decide +kernel
theorem dX9_may_33 : decode cX9_may 33 = .ok (.iload_n 1, 1) := by decide +kernel
theorem dX9_may_34 : decode cX9_may 34 = .ok (.iload_n 2, 1) := by decide +kernel
theorem dX9_may_35 : decode cX9_may 35 = .ok (.invokevirtual 231, 3) := by decide +kernel
theorem dX9_may_38 : decode cX9_may 38 = .ok (.invokevirtual 89, 3) := by decide +kernel
theorem dX9_may_41 : decode cX9_may 41 = .ok (.ireturn, 1) := by decide +kernel
theorem dX9_waitsFor_0 : decode cX9_waitsFor 0 = .ok (.aload_n 0, 1) := by decide +kernel
theorem dX9_waitsFor_1 : decode cX9_waitsFor 1 = .ok (.getfield 19, 3) := by decide +kernel
theorem dX9_waitsFor_4 : decode cX9_waitsFor 4 = .ok (.iload_n 1, 1) := by decide +kernel
theorem dX9_waitsFor_5 : decode cX9_waitsFor 5 = .ok (.invokevirtual 141, 3) := by decide +kernel
theorem dX9_waitsFor_8 : decode cX9_waitsFor 8 = .ok (.ifCond .eq 14, 3) := by decide +kernel
theorem dX9_waitsFor_11 : decode cX9_waitsFor 11 = .ok (.aload_n 0, 1) := by decide +kernel
theorem dX9_waitsFor_12 : decode cX9_waitsFor 12 = .ok (.getfield 19, 3) := by decide +kernel
theorem dX9_waitsFor_15 : decode cX9_waitsFor 15 = .ok (.iload_n 2, 1) := by decide +kernel
theorem dX9_waitsFor_16 : decode cX9_waitsFor 16 = .ok (.invokevirtual 196, 3) := by decide +kernel
theorem dX9_waitsFor_19 : decode cX9_waitsFor 19 = .ok (.ifCond .ne 9, 3) := by decide +kernel
theorem dX9_waitsFor_22 : decode cX9_waitsFor 22 = .ok (.aload_n 0, 1) := by decide +kernel
theorem dX9_waitsFor_23 : decode cX9_waitsFor 23 = .ok (.iconst 1, 1) := by decide +kernel
theorem dX9_waitsFor_24 : decode cX9_waitsFor 24 = .ok (.invokevirtual 51, 3) := by decide +kernel
theorem dX9_waitsFor_27 : decode cX9_waitsFor 27 = .ok (.ireturn, 1) := by decide +kernel
theorem dX9_waitsFor_28 : decode cX9_waitsFor 28 = .ok (.aload_n 0, 1) := by decide +kernel
theorem dX9_waitsFor_29 : decode cX9_waitsFor 29 = .ok (.aload_n 0, 1) := by decide +kernel
theorem dX9_waitsFor_30 : decode cX9_waitsFor 30 = .ok (.getfield 19, 3) := by decide +kernel
theorem dX9_waitsFor_33 : decode cX9_waitsFor 33 = .ok (.iload_n 1, 1) := by decide +kernel
theorem dX9_waitsFor_34 : decode cX9_waitsFor 34 = .ok (.iload_n 2, 1) := by decide +kernel
theorem dX9_waitsFor_35 : decode cX9_waitsFor 35 = .ok (.invokevirtual 234, 3) := by decide +kernel
theorem dX9_waitsFor_38 : decode cX9_waitsFor 38 = .ok (.invokevirtual 89, 3) := by decide +kernel
theorem dX9_waitsFor_41 : decode cX9_waitsFor 41 = .ok (.ireturn, 1) := by decide +kernel
theorem dX9_open_0 : decode cX9_open 0 = .ok (.aload_n 0, 1) := by decide +kernel
theorem dX9_open_1 : decode cX9_open 1 = .ok (.getfield 19, 3) := by decide +kernel
theorem dX9_open_4 : decode cX9_open 4 = .ok (.iload_n 1, 1) := by decide +kernel
theorem dX9_open_5 : decode cX9_open 5 = .ok (.invokevirtual 141, 3) := by decide +kernel
theorem dX9_open_8 : decode cX9_open 8 = .ok (.ifCond .eq 19, 3) := by decide +kernel
theorem dX9_open_11 : decode cX9_open 11 = .ok (.aload_n 0, 1) := by decide +kernel
theorem dX9_open_12 : decode cX9_open 12 = .ok (.aload_n 0, 1) := by decide +kernel
theorem dX9_open_13 : decode cX9_open 13 = .ok (.getfield 19, 3) := by decide +kernel
theorem dX9_open_16 : decode cX9_open 16 = .ok (.iload_n 1, 1) := by decide +kernel
theorem dX9_open_17 : decode cX9_open 17 = .ok (.iconst 0, 1) := by decide +kernel
theorem dX9_open_18 : decode cX9_open 18 = .ok (.invokevirtual 237, 3) := by decide +kernel
theorem dX9_open_21 : decode cX9_open 21 = .ok (.invokevirtual 89, 3) := by decide +kernel
theorem dX9_open_24 : decode cX9_open 24 = .ok (.goto 8, 3) := by decide +kernel
theorem dX9_open_27 : decode cX9_open 27 = .ok (.aload_n 0, 1) := by decide +kernel
theorem dX9_open_28 : decode cX9_open 28 = .ok (.iconst 1, 1) := by decide +kernel
theorem dX9_open_29 : decode cX9_open 29 = .ok (.invokevirtual 51, 3) := by decide +kernel
theorem dX9_open_32 : decode cX9_open 32 = .ok (.ireturn, 1) := by decide +kernel
theorem dX9_loses_0 : decode cX9_loses 0 = .ok (.aload_n 0, 1) := by decide +kernel
theorem dX9_loses_1 : decode cX9_loses 1 = .ok (.getfield 19, 3) := by decide +kernel
theorem dX9_loses_4 : decode cX9_loses 4 = .ok (.iload_n 1, 1) := by decide +kernel
theorem dX9_loses_5 : decode cX9_loses 5 = .ok (.invokevirtual 141, 3) := by decide +kernel
theorem dX9_loses_8 : decode cX9_loses 8 = .ok (.ifCond .eq 19, 3) := by decide +kernel
theorem dX9_loses_11 : decode cX9_loses 11 = .ok (.aload_n 0, 1) := by decide +kernel
theorem dX9_loses_12 : decode cX9_loses 12 = .ok (.aload_n 0, 1) := by decide +kernel
theorem dX9_loses_13 : decode cX9_loses 13 = .ok (.getfield 19, 3) := by decide +kernel
theorem dX9_loses_16 : decode cX9_loses 16 = .ok (.iload_n 1, 1) := by decide +kernel
theorem dX9_loses_17 : decode cX9_loses 17 = .ok (.iconst 2, 1) := by decide +kernel
theorem dX9_loses_18 : decode cX9_loses 18 = .ok (.invokevirtual 237, 3) := by decide +kernel
theorem dX9_loses_21 : decode cX9_loses 21 = .ok (.invokevirtual 89, 3) := by decide +kernel
theorem dX9_loses_24 : decode cX9_loses 24 = .ok (.goto 8, 3) := by decide +kernel
theorem dX9_loses_27 : decode cX9_loses 27 = .ok (.aload_n 0, 1) := by decide +kernel
theorem dX9_loses_28 : decode cX9_loses 28 = .ok (.iconst 1, 1) := by decide +kernel
theorem dX9_loses_29 : decode cX9_loses 29 = .ok (.invokevirtual 51, 3) := by decide +kernel
theorem dX9_loses_32 : decode cX9_loses 32 = .ok (.ireturn, 1) := by decide +kernel
theorem dX9_fits_0 : decode cX9_fits 0 = .ok (.aload_n 0, 1) := by decide +kernel
theorem dX9_fits_1 : decode cX9_fits 1 = .ok (.invokevirtual 95, 3) := by decide +kernel
theorem dX9_fits_4 : decode cX9_fits 4 = .ok (.ifCond .eq 17, 3) := by decide +kernel
theorem dX9_fits_7 : decode cX9_fits 7 = .ok (.aload_n 0, 1) := by decide +kernel
theorem dX9_fits_8 : decode cX9_fits 8 = .ok (.aload_n 0, 1) := by decide +kernel
theorem dX9_fits_9 : decode cX9_fits 9 = .ok (.getfield 26, 3) := by decide +kernel
theorem dX9_fits_12 : decode cX9_fits 12 = .ok (.getfield 240, 3) := by decide +kernel
theorem dX9_fits_15 : decode cX9_fits 15 = .ok (.invokevirtual 89, 3) := by decide +kernel
theorem dX9_fits_18 : decode cX9_fits 18 = .ok (.goto 8, 3) := by decide +kernel
theorem dX9_fits_21 : decode cX9_fits 21 = .ok (.aload_n 0, 1) := by decide +kernel
theorem dX9_fits_22 : decode cX9_fits 22 = .ok (.iconst 1, 1) := by decide +kernel
theorem dX9_fits_23 : decode cX9_fits 23 = .ok (.invokevirtual 51, 3) := by decide +kernel
theorem dX9_fits_26 : decode cX9_fits 26 = .ok (.ireturn, 1) := by decide +kernel
theorem dX9_fitAt_0 : decode cX9_fitAt 0 = .ok (.aload_n 0, 1) := by decide +kernel
theorem dX9_fitAt_1 : decode cX9_fitAt 1 = .ok (.getfield 26, 3) := by decide +kernel
theorem dX9_fitAt_4 : decode cX9_fitAt 4 = .ok (.iload_n 1, 1) := by decide +kernel
theorem dX9_fitAt_5 : decode cX9_fitAt 5 = .ok (.invokevirtual 243, 3) := by decide +kernel
theorem dX9_fitAt_8 : decode cX9_fitAt 8 = .ok (.istore_n 2, 1) := by decide +kernel
theorem dX9_fitAt_9 : decode cX9_fitAt 9 = .ok (.iload_n 2, 1) := by decide +kernel
theorem dX9_fitAt_10 : decode cX9_fitAt 10 = .ok (.bipush (-2), 2) := by decide +kernel
theorem dX9_fitAt_12 : decode cX9_fitAt 12 = .ok (.if_icmp .ne 11, 3) := by decide +kernel
theorem dX9_fitAt_15 : decode cX9_fitAt 15 = .ok (.aload_n 0, 1) := by decide +kernel
theorem dX9_fitAt_16 : decode cX9_fitAt 16 = .ok (.iconst 1, 1) := by decide +kernel
theorem dX9_fitAt_17 : decode cX9_fitAt 17 = .ok (.invokevirtual 51, 3) := by decide +kernel
theorem dX9_fitAt_20 : decode cX9_fitAt 20 = .ok (.goto 8, 3) := by decide +kernel
theorem dX9_fitAt_23 : decode cX9_fitAt 23 = .ok (.aload_n 0, 1) := by decide +kernel
theorem dX9_fitAt_24 : decode cX9_fitAt 24 = .ok (.iload_n 2, 1) := by decide +kernel
theorem dX9_fitAt_25 : decode cX9_fitAt 25 = .ok (.invokevirtual 89, 3) := by decide +kernel
theorem dX9_fitAt_28 : decode cX9_fitAt 28 = .ok (.ireturn, 1) := by decide +kernel
theorem dX9_could_0 : decode cX9_could 0 = .ok (.aload_n 0, 1) := by decide +kernel
theorem dX9_could_1 : decode cX9_could 1 = .ok (.invokevirtual 95, 3) := by decide +kernel
theorem dX9_could_4 : decode cX9_could 4 = .ok (.ifCond .eq 17, 3) := by decide +kernel
theorem dX9_could_7 : decode cX9_could 7 = .ok (.aload_n 0, 1) := by decide +kernel
theorem dX9_could_8 : decode cX9_could 8 = .ok (.aload_n 0, 1) := by decide +kernel
theorem dX9_could_9 : decode cX9_could 9 = .ok (.getfield 26, 3) := by decide +kernel
theorem dX9_could_12 : decode cX9_could 12 = .ok (.invokevirtual 246, 3) := by decide +kernel
theorem dX9_could_15 : decode cX9_could 15 = .ok (.invokevirtual 89, 3) := by decide +kernel
theorem dX9_could_18 : decode cX9_could 18 = .ok (.goto 8, 3) := by decide +kernel
theorem dX9_could_21 : decode cX9_could 21 = .ok (.aload_n 0, 1) := by decide +kernel
theorem dX9_could_22 : decode cX9_could 22 = .ok (.iconst 1, 1) := by decide +kernel
theorem dX9_could_23 : decode cX9_could 23 = .ok (.invokevirtual 51, 3) := by decide +kernel
theorem dX9_could_26 : decode cX9_could 26 = .ok (.ireturn, 1) := by decide +kernel
theorem dX9_surely_0 : decode cX9_surely 0 = .ok (.aload_n 0, 1) := by decide +kernel
theorem dX9_surely_1 : decode cX9_surely 1 = .ok (.invokevirtual 95, 3) := by decide +kernel
theorem dX9_surely_4 : decode cX9_surely 4 = .ok (.ifCond .eq 17, 3) := by decide +kernel
theorem dX9_surely_7 : decode cX9_surely 7 = .ok (.aload_n 0, 1) := by decide +kernel
theorem dX9_surely_8 : decode cX9_surely 8 = .ok (.aload_n 0, 1) := by decide +kernel
theorem dX9_surely_9 : decode cX9_surely 9 = .ok (.getfield 26, 3) := by decide +kernel
theorem dX9_surely_12 : decode cX9_surely 12 = .ok (.invokevirtual 249, 3) := by decide +kernel
theorem dX9_surely_15 : decode cX9_surely 15 = .ok (.invokevirtual 89, 3) := by decide +kernel
theorem dX9_surely_18 : decode cX9_surely 18 = .ok (.goto 8, 3) := by decide +kernel
theorem dX9_surely_21 : decode cX9_surely 21 = .ok (.aload_n 0, 1) := by decide +kernel
theorem dX9_surely_22 : decode cX9_surely 22 = .ok (.iconst 1, 1) := by decide +kernel
theorem dX9_surely_23 : decode cX9_surely 23 = .ok (.invokevirtual 51, 3) := by decide +kernel
theorem dX9_surely_26 : decode cX9_surely 26 = .ok (.ireturn, 1) := by decide +kernel
theorem dX9_ask_0 : decode cX9_ask 0 = .ok (.aload_n 0, 1) := by decide +kernel
theorem dX9_ask_1 : decode cX9_ask 1 = .ok (.invokevirtual 95, 3) := by decide +kernel
theorem dX9_ask_4 : decode cX9_ask 4 = .ok (.ifCond .eq 17, 3) := by decide +kernel
theorem dX9_ask_7 : decode cX9_ask 7 = .ok (.aload_n 0, 1) := by decide +kernel
theorem dX9_ask_8 : decode cX9_ask 8 = .ok (.aload_n 0, 1) := by decide +kernel
theorem dX9_ask_9 : decode cX9_ask 9 = .ok (.getfield 26, 3) := by decide +kernel
theorem dX9_ask_12 : decode cX9_ask 12 = .ok (.invokevirtual 252, 3) := by decide +kernel
theorem dX9_ask_15 : decode cX9_ask 15 = .ok (.invokevirtual 89, 3) := by decide +kernel
theorem dX9_ask_18 : decode cX9_ask 18 = .ok (.goto 8, 3) := by decide +kernel
theorem dX9_ask_21 : decode cX9_ask 21 = .ok (.aload_n 0, 1) := by decide +kernel
theorem dX9_ask_22 : decode cX9_ask 22 = .ok (.iconst 1, 1) := by decide +kernel
theorem dX9_ask_23 : decode cX9_ask 23 = .ok (.invokevirtual 51, 3) := by decide +kernel
theorem dX9_ask_26 : decode cX9_ask 26 = .ok (.ireturn, 1) := by decide +kernel
theorem dX9_askLeaves_0 : decode cX9_askLeaves 0 = .ok (.aload_n 0, 1) := by decide +kernel
theorem dX9_askLeaves_1 : decode cX9_askLeaves 1 = .ok (.invokevirtual 95, 3) := by decide +kernel
theorem dX9_askLeaves_4 : decode cX9_askLeaves 4 = .ok (.ifCond .ne 9, 3) := by decide +kernel
theorem dX9_askLeaves_7 : decode cX9_askLeaves 7 = .ok (.aload_n 0, 1) := by decide +kernel
theorem dX9_askLeaves_8 : decode cX9_askLeaves 8 = .ok (.iconst 1, 1) := by decide +kernel
theorem dX9_askLeaves_9 : decode cX9_askLeaves 9 = .ok (.invokevirtual 51, 3) := by decide +kernel
theorem dX9_askLeaves_12 : decode cX9_askLeaves 12 = .ok (.ireturn, 1) := by decide +kernel
theorem dX9_askLeaves_13 : decode cX9_askLeaves 13 = .ok (.aload_n 0, 1) := by decide +kernel
theorem dX9_askLeaves_14 : decode cX9_askLeaves 14 = .ok (.getfield 26, 3) := by decide +kernel
theorem dX9_askLeaves_17 : decode cX9_askLeaves 17 = .ok (.invokevirtual 252, 3) := by decide +kernel
theorem dX9_askLeaves_20 : decode cX9_askLeaves 20 = .ok (.istore_n 1, 1) := by decide +kernel
theorem dX9_askLeaves_21 : decode cX9_askLeaves 21 = .ok (.aload_n 0, 1) := by decide +kernel
theorem dX9_askLeaves_22 : decode cX9_askLeaves 22 = .ok (.iload_n 1, 1) := by decide +kernel
theorem dX9_askLeaves_23 : decode cX9_askLeaves 23 = .ok (.bipush (-2), 2) := by decide +kernel
theorem dX9_askLeaves_25 : decode cX9_askLeaves 25 = .ok (.if_icmp .ne 8, 3) := by decide +kernel
theorem dX9_askLeaves_28 : decode cX9_askLeaves 28 = .ok (.bipush (-2), 2) := by decide +kernel
theorem dX9_askLeaves_30 : decode cX9_askLeaves 30 = .ok (.goto 11, 3) := by decide +kernel
theorem dX9_askLeaves_33 : decode cX9_askLeaves 33 = .ok (.aload_n 0, 1) := by decide +kernel
theorem dX9_askLeaves_34 : decode cX9_askLeaves 34 = .ok (.getfield 26, 3) := by decide +kernel
theorem dX9_askLeaves_37 : decode cX9_askLeaves 37 = .ok (.iload_n 1, 1) := by decide +kernel
theorem dX9_askLeaves_38 : decode cX9_askLeaves 38 = .ok (.invokevirtual 255, 3) := by decide +kernel
theorem dX9_askLeaves_41 : decode cX9_askLeaves 41 = .ok (.invokevirtual 89, 3) := by decide +kernel
theorem dX9_askLeaves_44 : decode cX9_askLeaves 44 = .ok (.ireturn, 1) := by decide +kernel
theorem dX9_judge_0 : decode cX9_judge 0 = .ok (.aload_n 0, 1) := by decide +kernel
theorem dX9_judge_1 : decode cX9_judge 1 = .ok (.invokevirtual 95, 3) := by decide +kernel
theorem dX9_judge_4 : decode cX9_judge 4 = .ok (.ifCond .eq 17, 3) := by decide +kernel
theorem dX9_judge_7 : decode cX9_judge 7 = .ok (.aload_n 0, 1) := by decide +kernel
theorem dX9_judge_8 : decode cX9_judge 8 = .ok (.aload_n 0, 1) := by decide +kernel
theorem dX9_judge_9 : decode cX9_judge 9 = .ok (.getfield 26, 3) := by decide +kernel
theorem dX9_judge_12 : decode cX9_judge 12 = .ok (.getfield 258, 3) := by decide +kernel
theorem dX9_judge_15 : decode cX9_judge 15 = .ok (.invokevirtual 89, 3) := by decide +kernel
theorem dX9_judge_18 : decode cX9_judge 18 = .ok (.goto 8, 3) := by decide +kernel
theorem dX9_judge_21 : decode cX9_judge 21 = .ok (.aload_n 0, 1) := by decide +kernel
theorem dX9_judge_22 : decode cX9_judge 22 = .ok (.iconst 1, 1) := by decide +kernel
theorem dX9_judge_23 : decode cX9_judge 23 = .ok (.invokevirtual 51, 3) := by decide +kernel
theorem dX9_judge_26 : decode cX9_judge 26 = .ok (.ireturn, 1) := by decide +kernel
theorem dX9_waits_0 : decode cX9_waits 0 = .ok (.aload_n 0, 1) := by decide +kernel
theorem dX9_waits_1 : decode cX9_waits 1 = .ok (.iload_n 1, 1) := by decide +kernel
theorem dX9_waits_2 : decode cX9_waits 2 = .ok (.invokevirtual 261, 3) := by decide +kernel
theorem dX9_waits_5 : decode cX9_waits 5 = .ok (.istore 5, 2) := by decide +kernel
theorem dX9_waits_7 : decode cX9_waits 7 = .ok (.iload 5, 2) := by decide +kernel
theorem dX9_waits_9 : decode cX9_waits 9 = .ok (.ifCond .eq 13, 3) := by decide +kernel
theorem dX9_waits_12 : decode cX9_waits 12 = .ok (.aload_n 0, 1) := by decide +kernel
theorem dX9_waits_13 : decode cX9_waits 13 = .ok (.iload 5, 2) := by decide +kernel
theorem dX9_waits_15 : decode cX9_waits 15 = .ok (.invokevirtual 51, 3) := by decide +kernel
theorem dX9_waits_18 : decode cX9_waits 18 = .ok (.pop, 1) := by decide +kernel
theorem dX9_waits_19 : decode cX9_waits 19 = .ok (.bipush (-100), 2) := by decide +kernel
theorem dX9_waits_21 : decode cX9_waits 21 = .ok (.ireturn, 1) := by decide +kernel
theorem dX9_waits_22 : decode cX9_waits 22 = .ok (.aload_n 0, 1) := by decide +kernel
theorem dX9_waits_23 : decode cX9_waits 23 = .ok (.iload 4, 2) := by decide +kernel
theorem dX9_waits_25 : decode cX9_waits 25 = .ok (.ifCond .eq 12, 3) := by decide +kernel
theorem dX9_waits_28 : decode cX9_waits 28 = .ok (.iload_n 1, 1) := by decide +kernel
theorem dX9_waits_29 : decode cX9_waits 29 = .ok (.iload_n 3, 1) := by decide +kernel
theorem dX9_waits_30 : decode cX9_waits 30 = .ok (.iload_n 2, 1) := by decide +kernel
theorem dX9_waits_31 : decode cX9_waits 31 = .ok (.invokestatic 264, 3) := by decide +kernel
theorem dX9_waits_34 : decode cX9_waits 34 = .ok (.goto 9, 3) := by decide +kernel
theorem dX9_waits_37 : decode cX9_waits 37 = .ok (.iload_n 1, 1) := by decide +kernel
theorem dX9_waits_38 : decode cX9_waits 38 = .ok (.iload_n 2, 1) := by decide +kernel
theorem dX9_waits_39 : decode cX9_waits 39 = .ok (.iload_n 3, 1) := by decide +kernel
theorem dX9_waits_40 : decode cX9_waits 40 = .ok (.invokestatic 264, 3) := by decide +kernel
theorem dX9_waits_43 : decode cX9_waits 43 = .ok (.invokevirtual 89, 3) := by decide +kernel
theorem dX9_waits_46 : decode cX9_waits 46 = .ok (.ireturn, 1) := by decide +kernel
theorem dX9_rests_0 : decode cX9_rests 0 = .ok (.aload_n 0, 1) := by decide +kernel
theorem dX9_rests_1 : decode cX9_rests 1 = .ok (.iload_n 1, 1) := by decide +kernel
theorem dX9_rests_2 : decode cX9_rests 2 = .ok (.invokevirtual 261, 3) := by decide +kernel
theorem dX9_rests_5 : decode cX9_rests 5 = .ok (.istore_n 2, 1) := by decide +kernel
theorem dX9_rests_6 : decode cX9_rests 6 = .ok (.iload_n 2, 1) := by decide +kernel
theorem dX9_rests_7 : decode cX9_rests 7 = .ok (.ifCond .eq 11, 3) := by decide +kernel
theorem dX9_rests_10 : decode cX9_rests 10 = .ok (.aload_n 0, 1) := by decide +kernel
theorem dX9_rests_11 : decode cX9_rests 11 = .ok (.iload_n 2, 1) := by decide +kernel
theorem dX9_rests_12 : decode cX9_rests 12 = .ok (.invokevirtual 51, 3) := by decide +kernel
theorem dX9_rests_15 : decode cX9_rests 15 = .ok (.goto 11, 3) := by decide +kernel
theorem dX9_rests_18 : decode cX9_rests 18 = .ok (.aload_n 0, 1) := by decide +kernel
theorem dX9_rests_19 : decode cX9_rests 19 = .ok (.iload_n 1, 1) := by decide +kernel
theorem dX9_rests_20 : decode cX9_rests 20 = .ok (.invokestatic 270, 3) := by decide +kernel
theorem dX9_rests_23 : decode cX9_rests 23 = .ok (.invokevirtual 89, 3) := by decide +kernel
theorem dX9_rests_26 : decode cX9_rests 26 = .ok (.ireturn, 1) := by decide +kernel
theorem dX9_rest_0 : decode cX9_rest 0 = .ok (.aload_n 0, 1) := by decide +kernel
theorem dX9_rest_1 : decode cX9_rest 1 = .ok (.iload_n 1, 1) := by decide +kernel
theorem dX9_rest_2 : decode cX9_rest 2 = .ok (.invokevirtual 261, 3) := by decide +kernel
theorem dX9_rest_5 : decode cX9_rest 5 = .ok (.istore_n 2, 1) := by decide +kernel
theorem dX9_rest_6 : decode cX9_rest 6 = .ok (.iload_n 2, 1) := by decide +kernel
theorem dX9_rest_7 : decode cX9_rest 7 = .ok (.ifCond .eq 11, 3) := by decide +kernel
theorem dX9_rest_10 : decode cX9_rest 10 = .ok (.aload_n 0, 1) := by decide +kernel
theorem dX9_rest_11 : decode cX9_rest 11 = .ok (.iload_n 2, 1) := by decide +kernel
theorem dX9_rest_12 : decode cX9_rest 12 = .ok (.invokevirtual 51, 3) := by decide +kernel
theorem dX9_rest_15 : decode cX9_rest 15 = .ok (.goto 11, 3) := by decide +kernel
theorem dX9_rest_18 : decode cX9_rest 18 = .ok (.aload_n 0, 1) := by decide +kernel
theorem dX9_rest_19 : decode cX9_rest 19 = .ok (.iload_n 1, 1) := by decide +kernel
theorem dX9_rest_20 : decode cX9_rest 20 = .ok (.invokestatic 273, 3) := by decide +kernel
theorem dX9_rest_23 : decode cX9_rest 23 = .ok (.invokevirtual 89, 3) := by decide +kernel
theorem dX9_rest_26 : decode cX9_rest 26 = .ok (.ireturn, 1) := by decide +kernel
theorem dX9_odds_0 : decode cX9_odds 0 = .ok (.aload_n 0, 1) := by decide +kernel
theorem dX9_odds_1 : decode cX9_odds 1 = .ok (.getfield 19, 3) := by decide +kernel
theorem dX9_odds_4 : decode cX9_odds 4 = .ok (.iload_n 1, 1) := by decide +kernel
theorem dX9_odds_5 : decode cX9_odds 5 = .ok (.invokevirtual 196, 3) := by decide +kernel
theorem dX9_odds_8 : decode cX9_odds 8 = .ok (.ifCond .ne 10, 3) := by decide +kernel
theorem dX9_odds_11 : decode cX9_odds 11 = .ok (.aload_n 0, 1) := by decide +kernel
theorem dX9_odds_12 : decode cX9_odds 12 = .ok (.iconst 1, 1) := by decide +kernel
theorem dX9_odds_13 : decode cX9_odds 13 = .ok (.invokevirtual 51, 3) := by decide +kernel
theorem dX9_odds_16 : decode cX9_odds 16 = .ok (.i2l, 1) := by decide +kernel
theorem dX9_odds_17 : decode cX9_odds 17 = .ok (.lreturn, 1) := by decide +kernel
theorem dX9_odds_18 : decode cX9_odds 18 = .ok (.iload_n 2, 1) := by decide +kernel
theorem dX9_odds_19 : decode cX9_odds 19 = .ok (.invokestatic 276, 3) := by decide +kernel
theorem dX9_odds_22 : decode cX9_odds 22 = .ok (.ifCond .ne 10, 3) := by decide +kernel
theorem dX9_odds_25 : decode cX9_odds 25 = .ok (.aload_n 0, 1) := by decide +kernel
theorem dX9_odds_26 : decode cX9_odds 26 = .ok (.iconst 2, 1) := by decide +kernel
theorem dX9_odds_27 : decode cX9_odds 27 = .ok (.invokevirtual 51, 3) := by decide +kernel
theorem dX9_odds_30 : decode cX9_odds 30 = .ok (.i2l, 1) := by decide +kernel
theorem dX9_odds_31 : decode cX9_odds 31 = .ok (.lreturn, 1) := by decide +kernel
theorem dX9_odds_32 : decode cX9_odds 32 = .ok (.aload_n 0, 1) := by decide +kernel
theorem dX9_odds_33 : decode cX9_odds 33 = .ok (.iconst 0, 1) := by decide +kernel
theorem dX9_odds_34 : decode cX9_odds 34 = .ok (.putfield 92, 3) := by decide +kernel
theorem dX9_odds_37 : decode cX9_odds 37 = .ok (.aload_n 0, 1) := by decide +kernel
theorem dX9_odds_38 : decode cX9_odds 38 = .ok (.getfield 19, 3) := by decide +kernel
theorem dX9_odds_41 : decode cX9_odds 41 = .ok (.iload_n 1, 1) := by decide +kernel
theorem dX9_odds_42 : decode cX9_odds 42 = .ok (.iload_n 2, 1) := by decide +kernel
theorem dX9_odds_43 : decode cX9_odds 43 = .ok (.invokestatic 279, 3) := by decide +kernel
theorem dX9_odds_46 : decode cX9_odds 46 = .ok (.aload_n 0, 1) := by decide +kernel
theorem dX9_odds_47 : decode cX9_odds 47 = .ok (.getfield 19, 3) := by decide +kernel
theorem dX9_odds_50 : decode cX9_odds 50 = .ok (.invokestatic 285, 3) := by decide +kernel
theorem dX9_odds_53 : decode cX9_odds 53 = .ok (.iload_n 3, 1) := by decide +kernel
theorem dX9_odds_54 : decode cX9_odds 54 = .ok (.invokestatic 289, 3) := by decide +kernel
theorem dX9_odds_57 : decode cX9_odds 57 = .ok (.lreturn, 1) := by decide +kernel
theorem dX9_mean_0 : decode cX9_mean 0 = .ok (.aload_n 0, 1) := by decide +kernel
theorem dX9_mean_1 : decode cX9_mean 1 = .ok (.invokevirtual 95, 3) := by decide +kernel
theorem dX9_mean_4 : decode cX9_mean 4 = .ok (.ifCond .ne 10, 3) := by decide +kernel
theorem dX9_mean_7 : decode cX9_mean 7 = .ok (.aload_n 0, 1) := by decide +kernel
theorem dX9_mean_8 : decode cX9_mean 8 = .ok (.iconst 1, 1) := by decide +kernel
theorem dX9_mean_9 : decode cX9_mean 9 = .ok (.invokevirtual 51, 3) := by decide +kernel
theorem dX9_mean_12 : decode cX9_mean 12 = .ok (.i2l, 1) := by decide +kernel
theorem dX9_mean_13 : decode cX9_mean 13 = .ok (.lreturn, 1) := by decide +kernel
theorem dX9_mean_14 : decode cX9_mean 14 = .ok (.aload_n 0, 1) := by decide +kernel
theorem dX9_mean_15 : decode cX9_mean 15 = .ok (.iconst 0, 1) := by decide +kernel
theorem dX9_mean_16 : decode cX9_mean 16 = .ok (.putfield 92, 3) := by decide +kernel
theorem dX9_mean_19 : decode cX9_mean 19 = .ok (.aload_n 0, 1) := by decide +kernel
theorem dX9_mean_20 : decode cX9_mean 20 = .ok (.getfield 19, 3) := by decide +kernel
theorem dX9_mean_23 : decode cX9_mean 23 = .ok (.invokestatic 293, 3) := by decide +kernel
theorem dX9_mean_26 : decode cX9_mean 26 = .ok (.aload_n 0, 1) := by decide +kernel
theorem dX9_mean_27 : decode cX9_mean 27 = .ok (.getfield 19, 3) := by decide +kernel
theorem dX9_mean_30 : decode cX9_mean 30 = .ok (.invokestatic 285, 3) := by decide +kernel
theorem dX9_mean_33 : decode cX9_mean 33 = .ok (.iload_n 1, 1) := by decide +kernel
theorem dX9_mean_34 : decode cX9_mean 34 = .ok (.invokestatic 289, 3) := by decide +kernel
theorem dX9_mean_37 : decode cX9_mean 37 = .ok (.lreturn, 1) := by decide +kernel
theorem dX9_drawn_0 : decode cX9_drawn 0 = .ok (.aload_n 0, 1) := by decide +kernel
theorem dX9_drawn_1 : decode cX9_drawn 1 = .ok (.invokevirtual 95, 3) := by decide +kernel
theorem dX9_drawn_4 : decode cX9_drawn 4 = .ok (.ifCond .ne 9, 3) := by decide +kernel
theorem dX9_drawn_7 : decode cX9_drawn 7 = .ok (.aload_n 0, 1) := by decide +kernel
theorem dX9_drawn_8 : decode cX9_drawn 8 = .ok (.iconst 1, 1) := by decide +kernel
theorem dX9_drawn_9 : decode cX9_drawn 9 = .ok (.invokevirtual 51, 3) := by decide +kernel
theorem dX9_drawn_12 : decode cX9_drawn 12 = .ok (.ireturn, 1) := by decide +kernel
theorem dX9_drawn_13 : decode cX9_drawn 13 = .ok (.iload_n 1, 1) := by decide +kernel
theorem dX9_drawn_14 : decode cX9_drawn 14 = .ok (.ifCond .lt 10, 3) := by decide +kernel
theorem dX9_drawn_17 : decode cX9_drawn 17 = .ok (.iload_n 1, 1) := by decide +kernel
theorem dX9_drawn_18 : decode cX9_drawn 18 = .ok (.ldc_w 296, 3) := by decide +kernel
theorem dX9_drawn_21 : decode cX9_drawn 21 = .ok (.if_icmp .le 9, 3) := by decide +kernel
theorem dX9_drawn_24 : decode cX9_drawn 24 = .ok (.aload_n 0, 1) := by decide +kernel
theorem dX9_drawn_25 : decode cX9_drawn 25 = .ok (.iconst 2, 1) := by decide +kernel
theorem dX9_drawn_26 : decode cX9_drawn 26 = .ok (.invokevirtual 51, 3) := by decide +kernel
theorem dX9_drawn_29 : decode cX9_drawn 29 = .ok (.ireturn, 1) := by decide +kernel
theorem dX9_drawn_30 : decode cX9_drawn 30 = .ok (.aload_n 0, 1) := by decide +kernel
theorem dX9_drawn_31 : decode cX9_drawn 31 = .ok (.aload_n 0, 1) := by decide +kernel
theorem dX9_drawn_32 : decode cX9_drawn 32 = .ok (.getfield 19, 3) := by decide +kernel
theorem dX9_drawn_35 : decode cX9_drawn 35 = .ok (.aload_n 0, 1) := by decide +kernel
theorem dX9_drawn_36 : decode cX9_drawn 36 = .ok (.getfield 19, 3) := by decide +kernel
theorem dX9_drawn_39 : decode cX9_drawn 39 = .ok (.iload_n 1, 1) := by decide +kernel
theorem dX9_drawn_40 : decode cX9_drawn 40 = .ok (.invokestatic 297, 3) := by decide +kernel
theorem dX9_drawn_43 : decode cX9_drawn 43 = .ok (.invokevirtual 219, 3) := by decide +kernel
theorem dX9_drawn_46 : decode cX9_drawn 46 = .ok (.invokevirtual 89, 3) := by decide +kernel
theorem dX9_drawn_49 : decode cX9_drawn 49 = .ok (.ireturn, 1) := by decide +kernel
theorem dX9_begin_0 : decode cX9_begin 0 = .ok (.aload_n 0, 1) := by decide +kernel
theorem dX9_begin_1 : decode cX9_begin 1 = .ok (.invokevirtual 95, 3) := by decide +kernel
theorem dX9_begin_4 : decode cX9_begin 4 = .ok (.ifCond .ne 9, 3) := by decide +kernel
theorem dX9_begin_7 : decode cX9_begin 7 = .ok (.aload_n 0, 1) := by decide +kernel
theorem dX9_begin_8 : decode cX9_begin 8 = .ok (.iconst 1, 1) := by decide +kernel
theorem dX9_begin_9 : decode cX9_begin 9 = .ok (.invokevirtual 51, 3) := by decide +kernel
theorem dX9_begin_12 : decode cX9_begin 12 = .ok (.ireturn, 1) := by decide +kernel
theorem dX9_begin_13 : decode cX9_begin 13 = .ok (.aload_n 0, 1) := by decide +kernel
theorem dX9_begin_14 : decode cX9_begin 14 = .ok (.getfield 19, 3) := by decide +kernel
theorem dX9_begin_17 : decode cX9_begin 17 = .ok (.invokevirtual 301, 3) := by decide +kernel
theorem dX9_begin_20 : decode cX9_begin 20 = .ok (.ifCond .ne 9, 3) := by decide +kernel
theorem dX9_begin_23 : decode cX9_begin 23 = .ok (.aload_n 0, 1) := by decide +kernel
theorem dX9_begin_24 : decode cX9_begin 24 = .ok (.iconst 3, 1) := by decide +kernel
theorem dX9_begin_25 : decode cX9_begin 25 = .ok (.invokevirtual 51, 3) := by decide +kernel
theorem dX9_begin_28 : decode cX9_begin 28 = .ok (.ireturn, 1) := by decide +kernel
theorem dX9_begin_29 : decode cX9_begin 29 = .ok (.aload_n 0, 1) := by decide +kernel
theorem dX9_begin_30 : decode cX9_begin 30 = .ok (.getfield 33, 3) := by decide +kernel
theorem dX9_begin_33 : decode cX9_begin 33 = .ok (.aload_n 0, 1) := by decide +kernel
theorem dX9_begin_34 : decode cX9_begin 34 = .ok (.getfield 19, 3) := by decide +kernel
theorem dX9_begin_37 : decode cX9_begin 37 = .ok (.invokevirtual 304, 3) := by decide +kernel
theorem dX9_begin_40 : decode cX9_begin 40 = .ok (.aload_n 0, 1) := by decide +kernel
theorem dX9_begin_41 : decode cX9_begin 41 = .ok (.aload_n 0, 1) := by decide +kernel
theorem dX9_begin_42 : decode cX9_begin 42 = .ok (.getfield 19, 3) := by decide +kernel
theorem dX9_begin_45 : decode cX9_begin 45 = .ok (.invokevirtual 307, 3) := by decide +kernel
theorem dX9_begin_48 : decode cX9_begin 48 = .ok (.invokevirtual 89, 3) := by decide +kernel
theorem dX9_begin_51 : decode cX9_begin 51 = .ok (.ireturn, 1) := by decide +kernel
theorem dX9_put_0 : decode cX9_put 0 = .ok (.aload_n 0, 1) := by decide +kernel
theorem dX9_put_1 : decode cX9_put 1 = .ok (.getfield 19, 3) := by decide +kernel
theorem dX9_put_4 : decode cX9_put 4 = .ok (.iload_n 1, 1) := by decide +kernel
theorem dX9_put_5 : decode cX9_put 5 = .ok (.invokevirtual 141, 3) := by decide +kernel
theorem dX9_put_8 : decode cX9_put 8 = .ok (.ifCond .eq 14, 3) := by decide +kernel
theorem dX9_put_11 : decode cX9_put 11 = .ok (.aload_n 0, 1) := by decide +kernel
theorem dX9_put_12 : decode cX9_put 12 = .ok (.getfield 19, 3) := by decide +kernel
theorem dX9_put_15 : decode cX9_put 15 = .ok (.iload_n 2, 1) := by decide +kernel
theorem dX9_put_16 : decode cX9_put 16 = .ok (.invokevirtual 196, 3) := by decide +kernel
theorem dX9_put_19 : decode cX9_put 19 = .ok (.ifCond .ne 9, 3) := by decide +kernel
theorem dX9_put_22 : decode cX9_put 22 = .ok (.aload_n 0, 1) := by decide +kernel
theorem dX9_put_23 : decode cX9_put 23 = .ok (.iconst 1, 1) := by decide +kernel
theorem dX9_put_24 : decode cX9_put 24 = .ok (.invokevirtual 51, 3) := by decide +kernel
theorem dX9_put_27 : decode cX9_put 27 = .ok (.ireturn, 1) := by decide +kernel
theorem dX9_put_28 : decode cX9_put 28 = .ok (.iload_n 3, 1) := by decide +kernel
theorem dX9_put_29 : decode cX9_put 29 = .ok (.invokestatic 276, 3) := by decide +kernel
theorem dX9_put_32 : decode cX9_put 32 = .ok (.ifCond .ne 9, 3) := by decide +kernel
theorem dX9_put_35 : decode cX9_put 35 = .ok (.aload_n 0, 1) := by decide +kernel
theorem dX9_put_36 : decode cX9_put 36 = .ok (.iconst 2, 1) := by decide +kernel
theorem dX9_put_37 : decode cX9_put 37 = .ok (.invokevirtual 51, 3) := by decide +kernel
theorem dX9_put_40 : decode cX9_put 40 = .ok (.ireturn, 1) := by decide +kernel
theorem dX9_put_41 : decode cX9_put 41 = .ok (.aload_n 0, 1) := by decide +kernel
theorem dX9_put_42 : decode cX9_put 42 = .ok (.getfield 19, 3) := by decide +kernel
theorem dX9_put_45 : decode cX9_put 45 = .ok (.iload_n 1, 1) := by decide +kernel
theorem dX9_put_46 : decode cX9_put 46 = .ok (.iload_n 2, 1) := by decide +kernel
theorem dX9_put_47 : decode cX9_put 47 = .ok (.invokevirtual 310, 3) := by decide +kernel
theorem dX9_put_50 : decode cX9_put 50 = .ok (.istore 4, 2) := by decide +kernel
theorem dX9_put_52 : decode cX9_put 52 = .ok (.iload 4, 2) := by decide +kernel
theorem dX9_put_54 : decode cX9_put 54 = .ok (.ifCond .eq 10, 3) := by decide +kernel
theorem dX9_put_57 : decode cX9_put 57 = .ok (.aload_n 0, 1) := by decide +kernel
theorem dX9_put_58 : decode cX9_put 58 = .ok (.iload 4, 2) := by decide +kernel
theorem dX9_put_60 : decode cX9_put 60 = .ok (.invokevirtual 51, 3) := by decide +kernel
theorem dX9_put_63 : decode cX9_put 63 = .ok (.ireturn, 1) := by decide +kernel
theorem dX9_put_64 : decode cX9_put 64 = .ok (.aload_n 0, 1) := by decide +kernel
theorem dX9_put_65 : decode cX9_put 65 = .ok (.getfield 33, 3) := by decide +kernel
theorem dX9_put_68 : decode cX9_put 68 = .ok (.aload_n 0, 1) := by decide +kernel
theorem dX9_put_69 : decode cX9_put 69 = .ok (.getfield 19, 3) := by decide +kernel
theorem dX9_put_72 : decode cX9_put 72 = .ok (.invokevirtual 304, 3) := by decide +kernel
theorem dX9_put_75 : decode cX9_put 75 = .ok (.aload_n 0, 1) := by decide +kernel
theorem dX9_put_76 : decode cX9_put 76 = .ok (.aload_n 0, 1) := by decide +kernel
theorem dX9_put_77 : decode cX9_put 77 = .ok (.getfield 19, 3) := by decide +kernel
theorem dX9_put_80 : decode cX9_put 80 = .ok (.iload_n 1, 1) := by decide +kernel
theorem dX9_put_81 : decode cX9_put 81 = .ok (.iload_n 2, 1) := by decide +kernel
theorem dX9_put_82 : decode cX9_put 82 = .ok (.iload_n 3, 1) := by decide +kernel
theorem dX9_put_83 : decode cX9_put 83 = .ok (.invokevirtual 313, 3) := by decide +kernel
theorem dX9_put_86 : decode cX9_put 86 = .ok (.invokevirtual 89, 3) := by decide +kernel
theorem dX9_put_89 : decode cX9_put 89 = .ok (.ireturn, 1) := by decide +kernel
theorem dX9_drop_0 : decode cX9_drop 0 = .ok (.aload_n 0, 1) := by decide +kernel
theorem dX9_drop_1 : decode cX9_drop 1 = .ok (.getfield 19, 3) := by decide +kernel
theorem dX9_drop_4 : decode cX9_drop 4 = .ok (.iload_n 1, 1) := by decide +kernel
theorem dX9_drop_5 : decode cX9_drop 5 = .ok (.invokevirtual 141, 3) := by decide +kernel
theorem dX9_drop_8 : decode cX9_drop 8 = .ok (.ifCond .eq 14, 3) := by decide +kernel
theorem dX9_drop_11 : decode cX9_drop 11 = .ok (.aload_n 0, 1) := by decide +kernel
theorem dX9_drop_12 : decode cX9_drop 12 = .ok (.getfield 19, 3) := by decide +kernel
theorem dX9_drop_15 : decode cX9_drop 15 = .ok (.iload_n 2, 1) := by decide +kernel
theorem dX9_drop_16 : decode cX9_drop 16 = .ok (.invokevirtual 196, 3) := by decide +kernel
theorem dX9_drop_19 : decode cX9_drop 19 = .ok (.ifCond .ne 9, 3) := by decide +kernel
theorem dX9_drop_22 : decode cX9_drop 22 = .ok (.aload_n 0, 1) := by decide +kernel
theorem dX9_drop_23 : decode cX9_drop 23 = .ok (.iconst 1, 1) := by decide +kernel
theorem dX9_drop_24 : decode cX9_drop 24 = .ok (.invokevirtual 51, 3) := by decide +kernel
theorem dX9_drop_27 : decode cX9_drop 27 = .ok (.ireturn, 1) := by decide +kernel
theorem dX9_drop_28 : decode cX9_drop 28 = .ok (.aload_n 0, 1) := by decide +kernel
theorem dX9_drop_29 : decode cX9_drop 29 = .ok (.getfield 19, 3) := by decide +kernel
theorem dX9_drop_32 : decode cX9_drop 32 = .ok (.iload_n 1, 1) := by decide +kernel
theorem dX9_drop_33 : decode cX9_drop 33 = .ok (.iload_n 2, 1) := by decide +kernel
theorem dX9_drop_34 : decode cX9_drop 34 = .ok (.invokevirtual 317, 3) := by decide +kernel
theorem dX9_drop_37 : decode cX9_drop 37 = .ok (.istore_n 3, 1) := by decide +kernel
theorem dX9_drop_38 : decode cX9_drop 38 = .ok (.iload_n 3, 1) := by decide +kernel
theorem dX9_drop_39 : decode cX9_drop 39 = .ok (.ifCond .eq 9, 3) := by decide +kernel
theorem dX9_drop_42 : decode cX9_drop 42 = .ok (.aload_n 0, 1) := by decide +kernel
theorem dX9_drop_43 : decode cX9_drop 43 = .ok (.iload_n 3, 1) := by decide +kernel
theorem dX9_drop_44 : decode cX9_drop 44 = .ok (.invokevirtual 51, 3) := by decide +kernel
theorem dX9_drop_47 : decode cX9_drop 47 = .ok (.ireturn, 1) := by decide +kernel
theorem dX9_drop_48 : decode cX9_drop 48 = .ok (.aload_n 0, 1) := by decide +kernel
theorem dX9_drop_49 : decode cX9_drop 49 = .ok (.getfield 33, 3) := by decide +kernel
theorem dX9_drop_52 : decode cX9_drop 52 = .ok (.aload_n 0, 1) := by decide +kernel
theorem dX9_drop_53 : decode cX9_drop 53 = .ok (.getfield 19, 3) := by decide +kernel
theorem dX9_drop_56 : decode cX9_drop 56 = .ok (.invokevirtual 304, 3) := by decide +kernel
theorem dX9_drop_59 : decode cX9_drop 59 = .ok (.aload_n 0, 1) := by decide +kernel
theorem dX9_drop_60 : decode cX9_drop 60 = .ok (.aload_n 0, 1) := by decide +kernel
theorem dX9_drop_61 : decode cX9_drop 61 = .ok (.getfield 19, 3) := by decide +kernel
theorem dX9_drop_64 : decode cX9_drop 64 = .ok (.iload_n 1, 1) := by decide +kernel
theorem dX9_drop_65 : decode cX9_drop 65 = .ok (.iload_n 2, 1) := by decide +kernel
theorem dX9_drop_66 : decode cX9_drop 66 = .ok (.invokevirtual 320, 3) := by decide +kernel
theorem dX9_drop_69 : decode cX9_drop 69 = .ok (.invokevirtual 89, 3) := by decide +kernel
theorem dX9_drop_72 : decode cX9_drop 72 = .ok (.ireturn, 1) := by decide +kernel
theorem dX9_done_0 : decode cX9_done 0 = .ok (.aload_n 0, 1) := by decide +kernel
theorem dX9_done_1 : decode cX9_done 1 = .ok (.getfield 19, 3) := by decide +kernel
theorem dX9_done_4 : decode cX9_done 4 = .ok (.iload_n 1, 1) := by decide +kernel
theorem dX9_done_5 : decode cX9_done 5 = .ok (.invokevirtual 141, 3) := by decide +kernel
theorem dX9_done_8 : decode cX9_done 8 = .ok (.ifCond .ne 9, 3) := by decide +kernel
theorem dX9_done_11 : decode cX9_done 11 = .ok (.aload_n 0, 1) := by decide +kernel
theorem dX9_done_12 : decode cX9_done 12 = .ok (.iconst 1, 1) := by decide +kernel
theorem dX9_done_13 : decode cX9_done 13 = .ok (.invokevirtual 51, 3) := by decide +kernel
theorem dX9_done_16 : decode cX9_done 16 = .ok (.ireturn, 1) := by decide +kernel
theorem dX9_done_17 : decode cX9_done 17 = .ok (.aload_n 0, 1) := by decide +kernel
theorem dX9_done_18 : decode cX9_done 18 = .ok (.getfield 19, 3) := by decide +kernel
theorem dX9_done_21 : decode cX9_done 21 = .ok (.iload_n 1, 1) := by decide +kernel
theorem dX9_done_22 : decode cX9_done 22 = .ok (.invokevirtual 147, 3) := by decide +kernel
theorem dX9_done_25 : decode cX9_done 25 = .ok (.ifCond .eq 9, 3) := by decide +kernel
theorem dX9_done_28 : decode cX9_done 28 = .ok (.aload_n 0, 1) := by decide +kernel
theorem dX9_done_29 : decode cX9_done 29 = .ok (.iconst 5, 1) := by decide +kernel
theorem dX9_done_30 : decode cX9_done 30 = .ok (.invokevirtual 51, 3) := by decide +kernel
theorem dX9_done_33 : decode cX9_done 33 = .ok (.ireturn, 1) := by decide +kernel
theorem dX9_done_34 : decode cX9_done 34 = .ok (.aload_n 0, 1) := by decide +kernel
theorem dX9_done_35 : decode cX9_done 35 = .ok (.getfield 33, 3) := by decide +kernel
theorem dX9_done_38 : decode cX9_done 38 = .ok (.aload_n 0, 1) := by decide +kernel
theorem dX9_done_39 : decode cX9_done 39 = .ok (.getfield 19, 3) := by decide +kernel
theorem dX9_done_42 : decode cX9_done 42 = .ok (.invokevirtual 304, 3) := by decide +kernel
theorem dX9_done_45 : decode cX9_done 45 = .ok (.aload_n 0, 1) := by decide +kernel
theorem dX9_done_46 : decode cX9_done 46 = .ok (.aload_n 0, 1) := by decide +kernel
theorem dX9_done_47 : decode cX9_done 47 = .ok (.getfield 19, 3) := by decide +kernel
theorem dX9_done_50 : decode cX9_done 50 = .ok (.iload_n 1, 1) := by decide +kernel
theorem dX9_done_51 : decode cX9_done 51 = .ok (.iconst 1, 1) := by decide +kernel
theorem dX9_done_52 : decode cX9_done 52 = .ok (.invokevirtual 323, 3) := by decide +kernel
theorem dX9_done_55 : decode cX9_done 55 = .ok (.invokevirtual 89, 3) := by decide +kernel
theorem dX9_done_58 : decode cX9_done 58 = .ok (.ireturn, 1) := by decide +kernel
theorem dX9_gone_0 : decode cX9_gone 0 = .ok (.aload_n 0, 1) := by decide +kernel
theorem dX9_gone_1 : decode cX9_gone 1 = .ok (.getfield 19, 3) := by decide +kernel
theorem dX9_gone_4 : decode cX9_gone 4 = .ok (.iload_n 1, 1) := by decide +kernel
theorem dX9_gone_5 : decode cX9_gone 5 = .ok (.invokevirtual 141, 3) := by decide +kernel
theorem dX9_gone_8 : decode cX9_gone 8 = .ok (.ifCond .ne 9, 3) := by decide +kernel
theorem dX9_gone_11 : decode cX9_gone 11 = .ok (.aload_n 0, 1) := by decide +kernel
theorem dX9_gone_12 : decode cX9_gone 12 = .ok (.iconst 1, 1) := by decide +kernel
theorem dX9_gone_13 : decode cX9_gone 13 = .ok (.invokevirtual 51, 3) := by decide +kernel
theorem dX9_gone_16 : decode cX9_gone 16 = .ok (.ireturn, 1) := by decide +kernel
theorem dX9_gone_17 : decode cX9_gone 17 = .ok (.aload_n 0, 1) := by decide +kernel
theorem dX9_gone_18 : decode cX9_gone 18 = .ok (.getfield 33, 3) := by decide +kernel
theorem dX9_gone_21 : decode cX9_gone 21 = .ok (.aload_n 0, 1) := by decide +kernel
theorem dX9_gone_22 : decode cX9_gone 22 = .ok (.getfield 19, 3) := by decide +kernel
theorem dX9_gone_25 : decode cX9_gone 25 = .ok (.invokevirtual 304, 3) := by decide +kernel
theorem dX9_gone_28 : decode cX9_gone 28 = .ok (.aload_n 0, 1) := by decide +kernel
theorem dX9_gone_29 : decode cX9_gone 29 = .ok (.aload_n 0, 1) := by decide +kernel
theorem dX9_gone_30 : decode cX9_gone 30 = .ok (.getfield 19, 3) := by decide +kernel
theorem dX9_gone_33 : decode cX9_gone 33 = .ok (.iload_n 1, 1) := by decide +kernel
theorem dX9_gone_34 : decode cX9_gone 34 = .ok (.iconst 0, 1) := by decide +kernel
theorem dX9_gone_35 : decode cX9_gone 35 = .ok (.invokevirtual 323, 3) := by decide +kernel
theorem dX9_gone_38 : decode cX9_gone 38 = .ok (.invokevirtual 89, 3) := by decide +kernel
theorem dX9_gone_41 : decode cX9_gone 41 = .ok (.ireturn, 1) := by decide +kernel
theorem dX9_clear_0 : decode cX9_clear 0 = .ok (.aload_n 0, 1) := by decide +kernel
theorem dX9_clear_1 : decode cX9_clear 1 = .ok (.invokevirtual 95, 3) := by decide +kernel
theorem dX9_clear_4 : decode cX9_clear 4 = .ok (.ifCond .ne 9, 3) := by decide +kernel
theorem dX9_clear_7 : decode cX9_clear 7 = .ok (.aload_n 0, 1) := by decide +kernel
theorem dX9_clear_8 : decode cX9_clear 8 = .ok (.iconst 1, 1) := by decide +kernel
theorem dX9_clear_9 : decode cX9_clear 9 = .ok (.invokevirtual 51, 3) := by decide +kernel
theorem dX9_clear_12 : decode cX9_clear 12 = .ok (.ireturn, 1) := by decide +kernel
theorem dX9_clear_13 : decode cX9_clear 13 = .ok (.aload_n 0, 1) := by decide +kernel
theorem dX9_clear_14 : decode cX9_clear 14 = .ok (.getfield 19, 3) := by decide +kernel
theorem dX9_clear_17 : decode cX9_clear 17 = .ok (.bipush (-2), 2) := by decide +kernel
theorem dX9_clear_19 : decode cX9_clear 19 = .ok (.invokevirtual 172, 3) := by decide +kernel
theorem dX9_clear_22 : decode cX9_clear 22 = .ok (.ifCond .ne 10, 3) := by decide +kernel
theorem dX9_clear_25 : decode cX9_clear 25 = .ok (.aload_n 0, 1) := by decide +kernel
theorem dX9_clear_26 : decode cX9_clear 26 = .ok (.bipush 6, 2) := by decide +kernel
theorem dX9_clear_28 : decode cX9_clear 28 = .ok (.invokevirtual 51, 3) := by decide +kernel
theorem dX9_clear_31 : decode cX9_clear 31 = .ok (.ireturn, 1) := by decide +kernel
theorem dX9_clear_32 : decode cX9_clear 32 = .ok (.aload_n 0, 1) := by decide +kernel
theorem dX9_clear_33 : decode cX9_clear 33 = .ok (.getfield 33, 3) := by decide +kernel
theorem dX9_clear_36 : decode cX9_clear 36 = .ok (.aload_n 0, 1) := by decide +kernel
theorem dX9_clear_37 : decode cX9_clear 37 = .ok (.getfield 19, 3) := by decide +kernel
theorem dX9_clear_40 : decode cX9_clear 40 = .ok (.invokevirtual 304, 3) := by decide +kernel
theorem dX9_clear_43 : decode cX9_clear 43 = .ok (.aload_n 0, 1) := by decide +kernel
theorem dX9_clear_44 : decode cX9_clear 44 = .ok (.aload_n 0, 1) := by decide +kernel
theorem dX9_clear_45 : decode cX9_clear 45 = .ok (.getfield 19, 3) := by decide +kernel
theorem dX9_clear_48 : decode cX9_clear 48 = .ok (.invokevirtual 327, 3) := by decide +kernel
theorem dX9_clear_51 : decode cX9_clear 51 = .ok (.invokevirtual 89, 3) := by decide +kernel
theorem dX9_clear_54 : decode cX9_clear 54 = .ok (.ireturn, 1) := by decide +kernel
theorem dX9_freeze_0 : decode cX9_freeze 0 = .ok (.aload_n 0, 1) := by decide +kernel
theorem dX9_freeze_1 : decode cX9_freeze 1 = .ok (.invokevirtual 95, 3) := by decide +kernel
theorem dX9_freeze_4 : decode cX9_freeze 4 = .ok (.ifCond .ne 9, 3) := by decide +kernel
theorem dX9_freeze_7 : decode cX9_freeze 7 = .ok (.aload_n 0, 1) := by decide +kernel
theorem dX9_freeze_8 : decode cX9_freeze 8 = .ok (.iconst 1, 1) := by decide +kernel
theorem dX9_freeze_9 : decode cX9_freeze 9 = .ok (.invokevirtual 51, 3) := by decide +kernel
theorem dX9_freeze_12 : decode cX9_freeze 12 = .ok (.ireturn, 1) := by decide +kernel
theorem dX9_freeze_13 : decode cX9_freeze 13 = .ok (.aload_n 0, 1) := by decide +kernel
theorem dX9_freeze_14 : decode cX9_freeze 14 = .ok (.getfield 19, 3) := by decide +kernel
theorem dX9_freeze_17 : decode cX9_freeze 17 = .ok (.invokevirtual 209, 3) := by decide +kernel
theorem dX9_freeze_20 : decode cX9_freeze 20 = .ok (.ifCond .ne 10, 3) := by decide +kernel
theorem dX9_freeze_23 : decode cX9_freeze 23 = .ok (.aload_n 0, 1) := by decide +kernel
theorem dX9_freeze_24 : decode cX9_freeze 24 = .ok (.bipush 6, 2) := by decide +kernel
theorem dX9_freeze_26 : decode cX9_freeze 26 = .ok (.invokevirtual 51, 3) := by decide +kernel
theorem dX9_freeze_29 : decode cX9_freeze 29 = .ok (.ireturn, 1) := by decide +kernel
theorem dX9_freeze_30 : decode cX9_freeze 30 = .ok (.aload_n 0, 1) := by decide +kernel
theorem dX9_freeze_31 : decode cX9_freeze 31 = .ok (.getfield 33, 3) := by decide +kernel
theorem dX9_freeze_34 : decode cX9_freeze 34 = .ok (.aload_n 0, 1) := by decide +kernel
theorem dX9_freeze_35 : decode cX9_freeze 35 = .ok (.getfield 19, 3) := by decide +kernel
theorem dX9_freeze_38 : decode cX9_freeze 38 = .ok (.invokevirtual 304, 3) := by decide +kernel
theorem dX9_freeze_41 : decode cX9_freeze 41 = .ok (.aload_n 0, 1) := by decide +kernel
theorem dX9_freeze_42 : decode cX9_freeze 42 = .ok (.aload_n 0, 1) := by decide +kernel
theorem dX9_freeze_43 : decode cX9_freeze 43 = .ok (.getfield 19, 3) := by decide +kernel
theorem dX9_freeze_46 : decode cX9_freeze 46 = .ok (.invokevirtual 330, 3) := by decide +kernel
theorem dX9_freeze_49 : decode cX9_freeze 49 = .ok (.invokevirtual 89, 3) := by decide +kernel
theorem dX9_freeze_52 : decode cX9_freeze 52 = .ok (.ireturn, 1) := by decide +kernel
theorem dX9_undo_0 : decode cX9_undo 0 = .ok (.aload_n 0, 1) := by decide +kernel
theorem dX9_undo_1 : decode cX9_undo 1 = .ok (.getfield 33, 3) := by decide +kernel
theorem dX9_undo_4 : decode cX9_undo 4 = .ok (.aload_n 0, 1) := by decide +kernel
theorem dX9_undo_5 : decode cX9_undo 5 = .ok (.getfield 19, 3) := by decide +kernel
theorem dX9_undo_8 : decode cX9_undo 8 = .ok (.invokevirtual 333, 3) := by decide +kernel
theorem dX9_undo_11 : decode cX9_undo 11 = .ok (.istore_n 1, 1) := by decide +kernel
theorem dX9_undo_12 : decode cX9_undo 12 = .ok (.aload_n 0, 1) := by decide +kernel
theorem dX9_undo_13 : decode cX9_undo 13 = .ok (.iload_n 1, 1) := by decide +kernel
theorem dX9_undo_14 : decode cX9_undo 14 = .ok (.ifCond .eq 7, 3) := by decide +kernel
theorem dX9_undo_17 : decode cX9_undo 17 = .ok (.iconst 0, 1) := by decide +kernel
theorem dX9_undo_18 : decode cX9_undo 18 = .ok (.goto 5, 3) := by decide +kernel
theorem dX9_undo_21 : decode cX9_undo 21 = .ok (.bipush 6, 2) := by decide +kernel
theorem dX9_undo_23 : decode cX9_undo 23 = .ok (.putfield 92, 3) := by decide +kernel
theorem dX9_undo_26 : decode cX9_undo 26 = .ok (.iload_n 1, 1) := by decide +kernel
theorem dX9_undo_27 : decode cX9_undo 27 = .ok (.ireturn, 1) := by decide +kernel
theorem dX9_image_0 : decode cX9_image 0 = .ok (.aload_n 0, 1) := by decide +kernel
theorem dX9_image_1 : decode cX9_image 1 = .ok (.invokevirtual 95, 3) := by decide +kernel
theorem dX9_image_4 : decode cX9_image 4 = .ok (.ifCond .ne 9, 3) := by decide +kernel
theorem dX9_image_7 : decode cX9_image 7 = .ok (.aload_n 0, 1) := by decide +kernel
theorem dX9_image_8 : decode cX9_image 8 = .ok (.iconst 1, 1) := by decide +kernel
theorem dX9_image_9 : decode cX9_image 9 = .ok (.invokevirtual 51, 3) := by decide +kernel
theorem dX9_image_12 : decode cX9_image 12 = .ok (.ireturn, 1) := by decide +kernel
theorem dX9_image_13 : decode cX9_image 13 = .ok (.aload_n 0, 1) := by decide +kernel
theorem dX9_image_14 : decode cX9_image 14 = .ok (.getfield 33, 3) := by decide +kernel
theorem dX9_image_17 : decode cX9_image 17 = .ok (.aload_n 0, 1) := by decide +kernel
theorem dX9_image_18 : decode cX9_image 18 = .ok (.getfield 19, 3) := by decide +kernel
theorem dX9_image_21 : decode cX9_image 21 = .ok (.invokevirtual 337, 3) := by decide +kernel
theorem dX9_image_24 : decode cX9_image 24 = .ok (.istore_n 1, 1) := by decide +kernel
theorem dX9_image_25 : decode cX9_image 25 = .ok (.iload_n 1, 1) := by decide +kernel
theorem dX9_image_26 : decode cX9_image 26 = .ok (.bipush (-2), 2) := by decide +kernel
theorem dX9_image_28 : decode cX9_image 28 = .ok (.if_icmp .ne 11, 3) := by decide +kernel
theorem dX9_image_31 : decode cX9_image 31 = .ok (.aload_n 0, 1) := by decide +kernel
theorem dX9_image_32 : decode cX9_image 32 = .ok (.iconst 3, 1) := by decide +kernel
theorem dX9_image_33 : decode cX9_image 33 = .ok (.invokevirtual 51, 3) := by decide +kernel
theorem dX9_image_36 : decode cX9_image 36 = .ok (.goto 8, 3) := by decide +kernel
theorem dX9_image_39 : decode cX9_image 39 = .ok (.aload_n 0, 1) := by decide +kernel
theorem dX9_image_40 : decode cX9_image 40 = .ok (.iload_n 1, 1) := by decide +kernel
theorem dX9_image_41 : decode cX9_image 41 = .ok (.invokevirtual 89, 3) := by decide +kernel
theorem dX9_image_44 : decode cX9_image 44 = .ok (.ireturn, 1) := by decide +kernel
theorem dX9_back_0 : decode cX9_back 0 = .ok (.aload_n 0, 1) := by decide +kernel
theorem dX9_back_1 : decode cX9_back 1 = .ok (.getfield 33, 3) := by decide +kernel
theorem dX9_back_4 : decode cX9_back 4 = .ok (.iload_n 1, 1) := by decide +kernel
theorem dX9_back_5 : decode cX9_back 5 = .ok (.aload_n 0, 1) := by decide +kernel
theorem dX9_back_6 : decode cX9_back 6 = .ok (.getfield 19, 3) := by decide +kernel
theorem dX9_back_9 : decode cX9_back 9 = .ok (.invokevirtual 341, 3) := by decide +kernel
theorem dX9_back_12 : decode cX9_back 12 = .ok (.istore_n 2, 1) := by decide +kernel
theorem dX9_back_13 : decode cX9_back 13 = .ok (.aload_n 0, 1) := by decide +kernel
theorem dX9_back_14 : decode cX9_back 14 = .ok (.iload_n 2, 1) := by decide +kernel
theorem dX9_back_15 : decode cX9_back 15 = .ok (.ifCond .eq 7, 3) := by decide +kernel
theorem dX9_back_18 : decode cX9_back 18 = .ok (.iconst 0, 1) := by decide +kernel
theorem dX9_back_19 : decode cX9_back 19 = .ok (.goto 4, 3) := by decide +kernel
theorem dX9_back_22 : decode cX9_back 22 = .ok (.iconst 1, 1) := by decide +kernel
theorem dX9_back_23 : decode cX9_back 23 = .ok (.putfield 92, 3) := by decide +kernel
theorem dX9_back_26 : decode cX9_back 26 = .ok (.iload_n 2, 1) := by decide +kernel
theorem dX9_back_27 : decode cX9_back 27 = .ok (.ireturn, 1) := by decide +kernel
theorem dX9_led_0 : decode cX9_led 0 = .ok (.aload_n 0, 1) := by decide +kernel
theorem dX9_led_1 : decode cX9_led 1 = .ok (.getfield 19, 3) := by decide +kernel
theorem dX9_led_4 : decode cX9_led 4 = .ok (.iload_n 1, 1) := by decide +kernel
theorem dX9_led_5 : decode cX9_led 5 = .ok (.invokevirtual 345, 3) := by decide +kernel
theorem dX9_led_8 : decode cX9_led 8 = .ok (.istore_n 2, 1) := by decide +kernel
theorem dX9_led_9 : decode cX9_led 9 = .ok (.iload_n 2, 1) := by decide +kernel
theorem dX9_led_10 : decode cX9_led 10 = .ok (.bipush (-2), 2) := by decide +kernel
theorem dX9_led_12 : decode cX9_led 12 = .ok (.if_icmp .ne 11, 3) := by decide +kernel
theorem dX9_led_15 : decode cX9_led 15 = .ok (.new 348, 3) := by decide +kernel
theorem dX9_led_18 : decode cX9_led 18 = .ok (.dup, 1) := by decide +kernel
theorem dX9_led_19 : decode cX9_led 19 = .ok (.invokespecial 350, 3) := by decide +kernel
theorem dX9_led_22 : decode cX9_led 22 = .ok (.athrow, 1) := by decide +kernel
theorem dX9_led_23 : decode cX9_led 23 = .ok (.iload_n 2, 1) := by decide +kernel
theorem dX9_led_24 : decode cX9_led 24 = .ok (.ireturn, 1) := by decide +kernel
theorem dX9_size_0 : decode cX9_size 0 = .ok (.iload_n 1, 1) := by decide +kernel
theorem dX9_size_1 : decode cX9_size 1 = .ok (.tableswitch 141 0 9 #[55, 63, 71, 79, 87, 98, 106, 114, 122, 130], 55) := by decide +kernel
theorem dX9_size_56 : decode cX9_size 56 = .ok (.aload_n 0, 1) := by decide +kernel
theorem dX9_size_57 : decode cX9_size 57 = .ok (.getfield 19, 3) := by decide +kernel
theorem dX9_size_60 : decode cX9_size 60 = .ok (.getfield 351, 3) := by decide +kernel
theorem dX9_size_63 : decode cX9_size 63 = .ok (.ireturn, 1) := by decide +kernel
theorem dX9_size_64 : decode cX9_size 64 = .ok (.aload_n 0, 1) := by decide +kernel
theorem dX9_size_65 : decode cX9_size 65 = .ok (.getfield 19, 3) := by decide +kernel
theorem dX9_size_68 : decode cX9_size 68 = .ok (.getfield 222, 3) := by decide +kernel
theorem dX9_size_71 : decode cX9_size 71 = .ok (.ireturn, 1) := by decide +kernel
theorem dX9_size_72 : decode cX9_size 72 = .ok (.aload_n 0, 1) := by decide +kernel
theorem dX9_size_73 : decode cX9_size 73 = .ok (.getfield 19, 3) := by decide +kernel
theorem dX9_size_76 : decode cX9_size 76 = .ok (.getfield 354, 3) := by decide +kernel
theorem dX9_size_79 : decode cX9_size 79 = .ok (.ireturn, 1) := by decide +kernel
theorem dX9_size_80 : decode cX9_size 80 = .ok (.aload_n 0, 1) := by decide +kernel
theorem dX9_size_81 : decode cX9_size 81 = .ok (.getfield 19, 3) := by decide +kernel
