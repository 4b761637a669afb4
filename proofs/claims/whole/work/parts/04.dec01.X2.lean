theorem dX2_init_0 : decode cX2_init 0 = .ok (.aload_n 0, 1) := by decide +kernel
theorem dX2_init_1 : decode cX2_init 1 = .ok (.invokespecial 3, 3) := by decide +kernel
theorem dX2_init_4 : decode cX2_init 4 = .ok (.aload_n 0, 1) := by decide +kernel
theorem dX2_init_5 : decode cX2_init 5 = .ok (.bipush (-2), 2) := by decide +kernel
theorem dX2_init_7 : decode cX2_init 7 = .ok (.putfield 9, 3) := by decide +kernel
theorem dX2_init_10 : decode cX2_init 10 = .ok (.aload_n 0, 1) := by decide +kernel
theorem dX2_init_11 : decode cX2_init 11 = .ok (.iconst 4, 1) := by decide +kernel
theorem dX2_init_12 : decode cX2_init 12 = .ok (.newarray .long, 2) := by decide +kernel
theorem dX2_init_14 : decode cX2_init 14 = .ok (.putfield 15, 3) := by decide +kernel
theorem dX2_init_17 : decode cX2_init 17 = .ok (.aload_n 0, 1) := by decide +kernel
theorem dX2_init_18 : decode cX2_init 18 = .ok (.bipush 8, 2) := by decide +kernel
theorem dX2_init_20 : decode cX2_init 20 = .ok (.newarray .int, 2) := by decide +kernel
theorem dX2_init_22 : decode cX2_init 22 = .ok (.putfield 19, 3) := by decide +kernel
theorem dX2_init_25 : decode cX2_init 25 = .ok (.aload_n 0, 1) := by decide +kernel
theorem dX2_init_26 : decode cX2_init 26 = .ok (.bipush 8, 2) := by decide +kernel
theorem dX2_init_28 : decode cX2_init 28 = .ok (.newarray .int, 2) := by decide +kernel
theorem dX2_init_30 : decode cX2_init 30 = .ok (.putfield 23, 3) := by decide +kernel
theorem dX2_init_33 : decode cX2_init 33 = .ok (.aload_n 0, 1) := by decide +kernel
theorem dX2_init_34 : decode cX2_init 34 = .ok (.bipush 16, 2) := by decide +kernel
theorem dX2_init_36 : decode cX2_init 36 = .ok (.newarray .int, 2) := by decide +kernel
theorem dX2_init_38 : decode cX2_init 38 = .ok (.putfield 26, 3) := by decide +kernel
theorem dX2_init_41 : decode cX2_init 41 = .ok (.return_, 1) := by decide +kernel
theorem dX2_startAnew_0 : decode cX2_startAnew 0 = .ok (.aload_n 0, 1) := by decide +kernel
theorem dX2_startAnew_1 : decode cX2_startAnew 1 = .ok (.iconst 0, 1) := by decide +kernel
theorem dX2_startAnew_2 : decode cX2_startAnew 2 = .ok (.putfield 29, 3) := by decide +kernel
theorem dX2_startAnew_5 : decode cX2_startAnew 5 = .ok (.aload_n 0, 1) := by decide +kernel
theorem dX2_startAnew_6 : decode cX2_startAnew 6 = .ok (.iconst 0, 1) := by decide +kernel
theorem dX2_startAnew_7 : decode cX2_startAnew 7 = .ok (.putfield 32, 3) := by decide +kernel
theorem dX2_startAnew_10 : decode cX2_startAnew 10 = .ok (.return_, 1) := by decide +kernel
theorem dX2_takeOver_0 : decode cX2_takeOver 0 = .ok (.aload_n 0, 1) := by decide +kernel
theorem dX2_takeOver_1 : decode cX2_takeOver 1 = .ok (.aload_n 1, 1) := by decide +kernel
theorem dX2_takeOver_2 : decode cX2_takeOver 2 = .ok (.getfield 29, 3) := by decide +kernel
theorem dX2_takeOver_5 : decode cX2_takeOver 5 = .ok (.putfield 29, 3) := by decide +kernel
theorem dX2_takeOver_8 : decode cX2_takeOver 8 = .ok (.aload_n 0, 1) := by decide +kernel
theorem dX2_takeOver_9 : decode cX2_takeOver 9 = .ok (.aload_n 1, 1) := by decide +kernel
theorem dX2_takeOver_10 : decode cX2_takeOver 10 = .ok (.getfield 32, 3) := by decide +kernel
theorem dX2_takeOver_13 : decode cX2_takeOver 13 = .ok (.putfield 32, 3) := by decide +kernel
theorem dX2_takeOver_16 : decode cX2_takeOver 16 = .ok (.aload_n 1, 1) := by decide +kernel
theorem dX2_takeOver_17 : decode cX2_takeOver 17 = .ok (.getfield 15, 3) := by decide +kernel
theorem dX2_takeOver_20 : decode cX2_takeOver 20 = .ok (.iconst 0, 1) := by decide +kernel
theorem dX2_takeOver_21 : decode cX2_takeOver 21 = .ok (.aload_n 0, 1) := by decide +kernel
theorem dX2_takeOver_22 : decode cX2_takeOver 22 = .ok (.getfield 15, 3) := by decide +kernel
theorem dX2_takeOver_25 : decode cX2_takeOver 25 = .ok (.iconst 0, 1) := by decide +kernel
theorem dX2_takeOver_26 : decode cX2_takeOver 26 = .ok (.iconst 4, 1) := by decide +kernel
theorem dX2_takeOver_27 : decode cX2_takeOver 27 = .ok (.invokestatic 35, 3) := by decide +kernel
theorem dX2_takeOver_30 : decode cX2_takeOver 30 = .ok (.aload_n 1, 1) := by decide +kernel
theorem dX2_takeOver_31 : decode cX2_takeOver 31 = .ok (.getfield 19, 3) := by decide +kernel
theorem dX2_takeOver_34 : decode cX2_takeOver 34 = .ok (.iconst 0, 1) := by decide +kernel
theorem dX2_takeOver_35 : decode cX2_takeOver 35 = .ok (.aload_n 0, 1) := by decide +kernel
theorem dX2_takeOver_36 : decode cX2_takeOver 36 = .ok (.getfield 19, 3) := by decide +kernel
theorem dX2_takeOver_39 : decode cX2_takeOver 39 = .ok (.iconst 0, 1) := by decide +kernel
theorem dX2_takeOver_40 : decode cX2_takeOver 40 = .ok (.bipush 8, 2) := by decide +kernel
theorem dX2_takeOver_42 : decode cX2_takeOver 42 = .ok (.invokestatic 35, 3) := by decide +kernel
theorem dX2_takeOver_45 : decode cX2_takeOver 45 = .ok (.aload_n 1, 1) := by decide +kernel
theorem dX2_takeOver_46 : decode cX2_takeOver 46 = .ok (.getfield 23, 3) := by decide +kernel
theorem dX2_takeOver_49 : decode cX2_takeOver 49 = .ok (.iconst 0, 1) := by decide +kernel
theorem dX2_takeOver_50 : decode cX2_takeOver 50 = .ok (.aload_n 0, 1) := by decide +kernel
theorem dX2_takeOver_51 : decode cX2_takeOver 51 = .ok (.getfield 23, 3) := by decide +kernel
theorem dX2_takeOver_54 : decode cX2_takeOver 54 = .ok (.iconst 0, 1) := by decide +kernel
theorem dX2_takeOver_55 : decode cX2_takeOver 55 = .ok (.bipush 8, 2) := by decide +kernel
theorem dX2_takeOver_57 : decode cX2_takeOver 57 = .ok (.invokestatic 35, 3) := by decide +kernel
theorem dX2_takeOver_60 : decode cX2_takeOver 60 = .ok (.return_, 1) := by decide +kernel
theorem dX2_addUnsure_0 : decode cX2_addUnsure 0 = .ok (.aload_n 0, 1) := by decide +kernel
theorem dX2_addUnsure_1 : decode cX2_addUnsure 1 = .ok (.getfield 29, 3) := by decide +kernel
theorem dX2_addUnsure_4 : decode cX2_addUnsure 4 = .ok (.iconst 4, 1) := by decide +kernel
theorem dX2_addUnsure_5 : decode cX2_addUnsure 5 = .ok (.if_icmp .ge 23, 3) := by decide +kernel
theorem dX2_addUnsure_8 : decode cX2_addUnsure 8 = .ok (.aload_n 0, 1) := by decide +kernel
theorem dX2_addUnsure_9 : decode cX2_addUnsure 9 = .ok (.getfield 15, 3) := by decide +kernel
theorem dX2_addUnsure_12 : decode cX2_addUnsure 12 = .ok (.aload_n 0, 1) := by decide +kernel
theorem dX2_addUnsure_13 : decode cX2_addUnsure 13 = .ok (.getfield 29, 3) := by decide +kernel
theorem dX2_addUnsure_16 : decode cX2_addUnsure 16 = .ok (.lload_n 1, 1) := by decide +kernel
theorem dX2_addUnsure_17 : decode cX2_addUnsure 17 = .ok (.lastore, 1) := by decide +kernel
theorem dX2_addUnsure_18 : decode cX2_addUnsure 18 = .ok (.aload_n 0, 1) := by decide +kernel
theorem dX2_addUnsure_19 : decode cX2_addUnsure 19 = .ok (.dup, 1) := by decide +kernel
theorem dX2_addUnsure_20 : decode cX2_addUnsure 20 = .ok (.getfield 29, 3) := by decide +kernel
theorem dX2_addUnsure_23 : decode cX2_addUnsure 23 = .ok (.iconst 1, 1) := by decide +kernel
theorem dX2_addUnsure_24 : decode cX2_addUnsure 24 = .ok (.iadd, 1) := by decide +kernel
theorem dX2_addUnsure_25 : decode cX2_addUnsure 25 = .ok (.putfield 29, 3) := by decide +kernel
theorem dX2_addUnsure_28 : decode cX2_addUnsure 28 = .ok (.return_, 1) := by decide +kernel
theorem dX2_addSeen_0 : decode cX2_addSeen 0 = .ok (.aload_n 0, 1) := by decide +kernel
theorem dX2_addSeen_1 : decode cX2_addSeen 1 = .ok (.getfield 32, 3) := by decide +kernel
theorem dX2_addSeen_4 : decode cX2_addSeen 4 = .ok (.bipush 8, 2) := by decide +kernel
theorem dX2_addSeen_6 : decode cX2_addSeen 6 = .ok (.if_icmp .ge 33, 3) := by decide +kernel
theorem dX2_addSeen_9 : decode cX2_addSeen 9 = .ok (.aload_n 0, 1) := by decide +kernel
theorem dX2_addSeen_10 : decode cX2_addSeen 10 = .ok (.getfield 19, 3) := by decide +kernel
theorem dX2_addSeen_13 : decode cX2_addSeen 13 = .ok (.aload_n 0, 1) := by decide +kernel
theorem dX2_addSeen_14 : decode cX2_addSeen 14 = .ok (.getfield 32, 3) := by decide +kernel
theorem dX2_addSeen_17 : decode cX2_addSeen 17 = .ok (.iload_n 1, 1) := by decide +kernel
theorem dX2_addSeen_18 : decode cX2_addSeen 18 = .ok (.iastore, 1) := by decide +kernel
theorem dX2_addSeen_19 : decode cX2_addSeen 19 = .ok (.aload_n 0, 1) := by decide +kernel
theorem dX2_addSeen_20 : decode cX2_addSeen 20 = .ok (.getfield 23, 3) := by decide +kernel
theorem dX2_addSeen_23 : decode cX2_addSeen 23 = .ok (.aload_n 0, 1) := by decide +kernel
theorem dX2_addSeen_24 : decode cX2_addSeen 24 = .ok (.getfield 32, 3) := by decide +kernel
theorem dX2_addSeen_27 : decode cX2_addSeen 27 = .ok (.iload_n 2, 1) := by decide +kernel
theorem dX2_addSeen_28 : decode cX2_addSeen 28 = .ok (.iastore, 1) := by decide +kernel
theorem dX2_addSeen_29 : decode cX2_addSeen 29 = .ok (.aload_n 0, 1) := by decide +kernel
theorem dX2_addSeen_30 : decode cX2_addSeen 30 = .ok (.dup, 1) := by decide +kernel
theorem dX2_addSeen_31 : decode cX2_addSeen 31 = .ok (.getfield 32, 3) := by decide +kernel
theorem dX2_addSeen_34 : decode cX2_addSeen 34 = .ok (.iconst 1, 1) := by decide +kernel
theorem dX2_addSeen_35 : decode cX2_addSeen 35 = .ok (.iadd, 1) := by decide +kernel
theorem dX2_addSeen_36 : decode cX2_addSeen 36 = .ok (.putfield 32, 3) := by decide +kernel
theorem dX2_addSeen_39 : decode cX2_addSeen 39 = .ok (.return_, 1) := by decide +kernel
theorem dX2_isRowSeen_0 : decode cX2_isRowSeen 0 = .ok (.iconst 0, 1) := by decide +kernel
theorem dX2_isRowSeen_1 : decode cX2_isRowSeen 1 = .ok (.istore_n 2, 1) := by decide +kernel
theorem dX2_isRowSeen_2 : decode cX2_isRowSeen 2 = .ok (.iload_n 2, 1) := by decide +kernel
theorem dX2_isRowSeen_3 : decode cX2_isRowSeen 3 = .ok (.aload_n 0, 1) := by decide +kernel
theorem dX2_isRowSeen_4 : decode cX2_isRowSeen 4 = .ok (.getfield 32, 3) := by decide +kernel
theorem dX2_isRowSeen_7 : decode cX2_isRowSeen 7 = .ok (.if_icmp .ge 27, 3) := by decide +kernel
theorem dX2_isRowSeen_10 : decode cX2_isRowSeen 10 = .ok (.iload_n 2, 1) := by decide +kernel
theorem dX2_isRowSeen_11 : decode cX2_isRowSeen 11 = .ok (.bipush 8, 2) := by decide +kernel
theorem dX2_isRowSeen_13 : decode cX2_isRowSeen 13 = .ok (.if_icmp .ge 21, 3) := by decide +kernel
theorem dX2_isRowSeen_16 : decode cX2_isRowSeen 16 = .ok (.aload_n 0, 1) := by decide +kernel
theorem dX2_isRowSeen_17 : decode cX2_isRowSeen 17 = .ok (.getfield 19, 3) := by decide +kernel
theorem dX2_isRowSeen_20 : decode cX2_isRowSeen 20 = .ok (.iload_n 2, 1) := by decide +kernel
theorem dX2_isRowSeen_21 : decode cX2_isRowSeen 21 = .ok (.iaload, 1) := by decide +kernel
theorem dX2_isRowSeen_22 : decode cX2_isRowSeen 22 = .ok (.iload_n 1, 1) := by decide +kernel
theorem dX2_isRowSeen_23 : decode cX2_isRowSeen 23 = .ok (.if_icmp .ne 5, 3) := by decide +kernel
theorem dX2_isRowSeen_26 : decode cX2_isRowSeen 26 = .ok (.iconst 1, 1) := by decide +kernel
theorem dX2_isRowSeen_27 : decode cX2_isRowSeen 27 = .ok (.ireturn, 1) := by decide +kernel
theorem dX2_isRowSeen_28 : decode cX2_isRowSeen 28 = .ok (.iinc 2 1, 3) := by decide +kernel
theorem dX2_isRowSeen_31 : decode cX2_isRowSeen 31 = .ok (.goto (-29), 3) := by decide +kernel
theorem dX2_isRowSeen_34 : decode cX2_isRowSeen 34 = .ok (.iconst 0, 1) := by decide +kernel
theorem dX2_isRowSeen_35 : decode cX2_isRowSeen 35 = .ok (.ireturn, 1) := by decide +kernel
theorem dX2_weigh_0 : decode cX2_weigh 0 = .ok (.aload_n 1, 1) := by decide +kernel
theorem dX2_weigh_1 : decode cX2_weigh 1 = .ok (.invokevirtual 41, 3) := by decide +kernel
theorem dX2_weigh_4 : decode cX2_weigh 4 = .ok (.lstore_n 2, 1) := by decide +kernel
theorem dX2_weigh_5 : decode cX2_weigh 5 = .ok (.aload_n 0, 1) := by decide +kernel
theorem dX2_weigh_6 : decode cX2_weigh 6 = .ok (.aload_n 0, 1) := by decide +kernel
theorem dX2_weigh_7 : decode cX2_weigh 7 = .ok (.aload_n 1, 1) := by decide +kernel
theorem dX2_weigh_8 : decode cX2_weigh 8 = .ok (.lload_n 2, 1) := by decide +kernel
theorem dX2_weigh_9 : decode cX2_weigh 9 = .ok (.invokevirtual 47, 3) := by decide +kernel
theorem dX2_weigh_12 : decode cX2_weigh 12 = .ok (.putfield 9, 3) := by decide +kernel
theorem dX2_weigh_15 : decode cX2_weigh 15 = .ok (.aload_n 0, 1) := by decide +kernel
theorem dX2_weigh_16 : decode cX2_weigh 16 = .ok (.iconst 0, 1) := by decide +kernel
theorem dX2_weigh_17 : decode cX2_weigh 17 = .ok (.putfield 51, 3) := by decide +kernel
theorem dX2_weigh_20 : decode cX2_weigh 20 = .ok (.iconst 0, 1) := by decide +kernel
theorem dX2_weigh_21 : decode cX2_weigh 21 = .ok (.istore 4, 2) := by decide +kernel
theorem dX2_weigh_23 : decode cX2_weigh 23 = .ok (.iload 4, 2) := by decide +kernel
theorem dX2_weigh_25 : decode cX2_weigh 25 = .ok (.iconst 1, 1) := by decide +kernel
theorem dX2_weigh_26 : decode cX2_weigh 26 = .ok (.aload_n 0, 1) := by decide +kernel
theorem dX2_weigh_27 : decode cX2_weigh 27 = .ok (.getfield 29, 3) := by decide +kernel
theorem dX2_weigh_30 : decode cX2_weigh 30 = .ok (.ishl, 1) := by decide +kernel
theorem dX2_weigh_31 : decode cX2_weigh 31 = .ok (.if_icmp .ge 60, 3) := by decide +kernel
theorem dX2_weigh_34 : decode cX2_weigh 34 = .ok (.aload_n 0, 1) := by decide +kernel
theorem dX2_weigh_35 : decode cX2_weigh 35 = .ok (.getfield 51, 3) := by decide +kernel
theorem dX2_weigh_38 : decode cX2_weigh 38 = .ok (.aload_n 0, 1) := by decide +kernel
theorem dX2_weigh_39 : decode cX2_weigh 39 = .ok (.getfield 26, 3) := by decide +kernel
theorem dX2_weigh_42 : decode cX2_weigh 42 = .ok (.arraylength, 1) := by decide +kernel
theorem dX2_weigh_43 : decode cX2_weigh 43 = .ok (.if_icmp .ge 48, 3) := by decide +kernel
theorem dX2_weigh_46 : decode cX2_weigh 46 = .ok (.aload_n 0, 1) := by decide +kernel
theorem dX2_weigh_47 : decode cX2_weigh 47 = .ok (.aload_n 1, 1) := by decide +kernel
theorem dX2_weigh_48 : decode cX2_weigh 48 = .ok (.lload_n 2, 1) := by decide +kernel
theorem dX2_weigh_49 : decode cX2_weigh 49 = .ok (.aload_n 0, 1) := by decide +kernel
theorem dX2_weigh_50 : decode cX2_weigh 50 = .ok (.iload 4, 2) := by decide +kernel
theorem dX2_weigh_52 : decode cX2_weigh 52 = .ok (.invokevirtual 54, 3) := by decide +kernel
theorem dX2_weigh_55 : decode cX2_weigh 55 = .ok (.lxor, 1) := by decide +kernel
theorem dX2_weigh_56 : decode cX2_weigh 56 = .ok (.invokevirtual 47, 3) := by decide +kernel
theorem dX2_weigh_59 : decode cX2_weigh 59 = .ok (.bipush (-2), 2) := by decide +kernel
theorem dX2_weigh_61 : decode cX2_weigh 61 = .ok (.if_icmp .ne 24, 3) := by decide +kernel
theorem dX2_weigh_64 : decode cX2_weigh 64 = .ok (.aload_n 0, 1) := by decide +kernel
theorem dX2_weigh_65 : decode cX2_weigh 65 = .ok (.getfield 26, 3) := by decide +kernel
theorem dX2_weigh_68 : decode cX2_weigh 68 = .ok (.aload_n 0, 1) := by decide +kernel
theorem dX2_weigh_69 : decode cX2_weigh 69 = .ok (.getfield 51, 3) := by decide +kernel
theorem dX2_weigh_72 : decode cX2_weigh 72 = .ok (.iload 4, 2) := by decide +kernel
theorem dX2_weigh_74 : decode cX2_weigh 74 = .ok (.iastore, 1) := by decide +kernel
theorem dX2_weigh_75 : decode cX2_weigh 75 = .ok (.aload_n 0, 1) := by decide +kernel
theorem dX2_weigh_76 : decode cX2_weigh 76 = .ok (.dup, 1) := by decide +kernel
theorem dX2_weigh_77 : decode cX2_weigh 77 = .ok (.getfield 51, 3) := by decide +kernel
theorem dX2_weigh_80 : decode cX2_weigh 80 = .ok (.iconst 1, 1) := by decide +kernel
theorem dX2_weigh_81 : decode cX2_weigh 81 = .ok (.iadd, 1) := by decide +kernel
theorem dX2_weigh_82 : decode cX2_weigh 82 = .ok (.putfield 51, 3) := by decide +kernel
theorem dX2_weigh_85 : decode cX2_weigh 85 = .ok (.iinc 4 1, 3) := by decide +kernel
theorem dX2_weigh_88 : decode cX2_weigh 88 = .ok (.goto (-65), 3) := by decide +kernel
theorem dX2_weigh_91 : decode cX2_weigh 91 = .ok (.return_, 1) := by decide +kernel
theorem dX2_flipsOf_0 : decode cX2_flipsOf 0 = .ok (.lconst 0, 1) := by decide +kernel
theorem dX2_flipsOf_1 : decode cX2_flipsOf 1 = .ok (.lstore_n 2, 1) := by decide +kernel
theorem dX2_flipsOf_2 : decode cX2_flipsOf 2 = .ok (.iconst 0, 1) := by decide +kernel
theorem dX2_flipsOf_3 : decode cX2_flipsOf 3 = .ok (.istore 4, 2) := by decide +kernel
theorem dX2_flipsOf_5 : decode cX2_flipsOf 5 = .ok (.iload 4, 2) := by decide +kernel
theorem dX2_flipsOf_7 : decode cX2_flipsOf 7 = .ok (.iconst 4, 1) := by decide +kernel
theorem dX2_flipsOf_8 : decode cX2_flipsOf 8 = .ok (.if_icmp .ge 28, 3) := by decide +kernel
theorem dX2_flipsOf_11 : decode cX2_flipsOf 11 = .ok (.iload_n 1, 1) := by decide +kernel
theorem dX2_flipsOf_12 : decode cX2_flipsOf 12 = .ok (.iload 4, 2) := by decide +kernel
theorem dX2_flipsOf_14 : decode cX2_flipsOf 14 = .ok (.ishr, 1) := by decide +kernel
theorem dX2_flipsOf_15 : decode cX2_flipsOf 15 = .ok (.iconst 1, 1) := by decide +kernel
theorem dX2_flipsOf_16 : decode cX2_flipsOf 16 = .ok (.iand, 1) := by decide +kernel
theorem dX2_flipsOf_17 : decode cX2_flipsOf 17 = .ok (.ifCond .eq 13, 3) := by decide +kernel
theorem dX2_flipsOf_20 : decode cX2_flipsOf 20 = .ok (.lload_n 2, 1) := by decide +kernel
theorem dX2_flipsOf_21 : decode cX2_flipsOf 21 = .ok (.aload_n 0, 1) := by decide +kernel
theorem dX2_flipsOf_22 : decode cX2_flipsOf 22 = .ok (.getfield 15, 3) := by decide +kernel
theorem dX2_flipsOf_25 : decode cX2_flipsOf 25 = .ok (.iload 4, 2) := by decide +kernel
theorem dX2_flipsOf_27 : decode cX2_flipsOf 27 = .ok (.laload, 1) := by decide +kernel
theorem dX2_flipsOf_28 : decode cX2_flipsOf 28 = .ok (.lxor, 1) := by decide +kernel
theorem dX2_flipsOf_29 : decode cX2_flipsOf 29 = .ok (.lstore_n 2, 1) := by decide +kernel
theorem dX2_flipsOf_30 : decode cX2_flipsOf 30 = .ok (.iinc 4 1, 3) := by decide +kernel
theorem dX2_flipsOf_33 : decode cX2_flipsOf 33 = .ok (.goto (-28), 3) := by decide +kernel
theorem dX2_flipsOf_36 : decode cX2_flipsOf 36 = .ok (.lload_n 2, 1) := by decide +kernel
theorem dX2_flipsOf_37 : decode cX2_flipsOf 37 = .ok (.lreturn, 1) := by decide +kernel
theorem dX2_firstNotSo_0 : decode cX2_firstNotSo 0 = .ok (.iconst 0, 1) := by decide +kernel
theorem dX2_firstNotSo_1 : decode cX2_firstNotSo 1 = .ok (.istore 4, 2) := by decide +kernel
theorem dX2_firstNotSo_3 : decode cX2_firstNotSo 3 = .ok (.iload 4, 2) := by decide +kernel
theorem dX2_firstNotSo_5 : decode cX2_firstNotSo 5 = .ok (.aload_n 0, 1) := by decide +kernel
theorem dX2_firstNotSo_6 : decode cX2_firstNotSo 6 = .ok (.getfield 32, 3) := by decide +kernel
theorem dX2_firstNotSo_9 : decode cX2_firstNotSo 9 = .ok (.if_icmp .ge 41, 3) := by decide +kernel
theorem dX2_firstNotSo_12 : decode cX2_firstNotSo 12 = .ok (.iload 4, 2) := by decide +kernel
theorem dX2_firstNotSo_14 : decode cX2_firstNotSo 14 = .ok (.bipush 8, 2) := by decide +kernel
theorem dX2_firstNotSo_16 : decode cX2_firstNotSo 16 = .ok (.if_icmp .ge 34, 3) := by decide +kernel
theorem dX2_firstNotSo_19 : decode cX2_firstNotSo 19 = .ok (.aload_n 1, 1) := by decide +kernel
theorem dX2_firstNotSo_20 : decode cX2_firstNotSo 20 = .ok (.aload_n 0, 1) := by decide +kernel
theorem dX2_firstNotSo_21 : decode cX2_firstNotSo 21 = .ok (.getfield 19, 3) := by decide +kernel
theorem dX2_firstNotSo_24 : decode cX2_firstNotSo 24 = .ok (.iload 4, 2) := by decide +kernel
theorem dX2_firstNotSo_26 : decode cX2_firstNotSo 26 = .ok (.iaload, 1) := by decide +kernel
theorem dX2_firstNotSo_27 : decode cX2_firstNotSo 27 = .ok (.lload_n 2, 1) := by decide +kernel
theorem dX2_firstNotSo_28 : decode cX2_firstNotSo 28 = .ok (.invokevirtual 58, 3) := by decide +kernel
theorem dX2_firstNotSo_31 : decode cX2_firstNotSo 31 = .ok (.aload_n 0, 1) := by decide +kernel
theorem dX2_firstNotSo_32 : decode cX2_firstNotSo 32 = .ok (.getfield 23, 3) := by decide +kernel
theorem dX2_firstNotSo_35 : decode cX2_firstNotSo 35 = .ok (.iload 4, 2) := by decide +kernel
theorem dX2_firstNotSo_37 : decode cX2_firstNotSo 37 = .ok (.iaload, 1) := by decide +kernel
theorem dX2_firstNotSo_38 : decode cX2_firstNotSo 38 = .ok (.if_icmp .eq 6, 3) := by decide +kernel
theorem dX2_firstNotSo_41 : decode cX2_firstNotSo 41 = .ok (.iload 4, 2) := by decide +kernel
theorem dX2_firstNotSo_43 : decode cX2_firstNotSo 43 = .ok (.ireturn, 1) := by decide +kernel
theorem dX2_firstNotSo_44 : decode cX2_firstNotSo 44 = .ok (.iinc 4 1, 3) := by decide +kernel
theorem dX2_firstNotSo_47 : decode cX2_firstNotSo 47 = .ok (.goto (-44), 3) := by decide +kernel
theorem dX2_firstNotSo_50 : decode cX2_firstNotSo 50 = .ok (.bipush (-2), 2) := by decide +kernel
theorem dX2_firstNotSo_52 : decode cX2_firstNotSo 52 = .ok (.ireturn, 1) := by decide +kernel
theorem dX2_fitNumber_0 : decode cX2_fitNumber 0 = .ok (.iload_n 1, 1) := by decide +kernel
theorem dX2_fitNumber_1 : decode cX2_fitNumber 1 = .ok (.ifCond .lt 29, 3) := by decide +kernel
theorem dX2_fitNumber_4 : decode cX2_fitNumber 4 = .ok (.iload_n 1, 1) := by decide +kernel
theorem dX2_fitNumber_5 : decode cX2_fitNumber 5 = .ok (.aload_n 0, 1) := by decide +kernel
theorem dX2_fitNumber_6 : decode cX2_fitNumber 6 = .ok (.getfield 51, 3) := by decide +kernel
theorem dX2_fitNumber_9 : decode cX2_fitNumber 9 = .ok (.if_icmp .ge 21, 3) := by decide +kernel
theorem dX2_fitNumber_12 : decode cX2_fitNumber 12 = .ok (.iload_n 1, 1) := by decide +kernel
theorem dX2_fitNumber_13 : decode cX2_fitNumber 13 = .ok (.aload_n 0, 1) := by decide +kernel
theorem dX2_fitNumber_14 : decode cX2_fitNumber 14 = .ok (.getfield 26, 3) := by decide +kernel
theorem dX2_fitNumber_17 : decode cX2_fitNumber 17 = .ok (.arraylength, 1) := by decide +kernel
theorem dX2_fitNumber_18 : decode cX2_fitNumber 18 = .ok (.if_icmp .ge 12, 3) := by decide +kernel
theorem dX2_fitNumber_21 : decode cX2_fitNumber 21 = .ok (.aload_n 0, 1) := by decide +kernel
theorem dX2_fitNumber_22 : decode cX2_fitNumber 22 = .ok (.getfield 26, 3) := by decide +kernel
theorem dX2_fitNumber_25 : decode cX2_fitNumber 25 = .ok (.iload_n 1, 1) := by decide +kernel
theorem dX2_fitNumber_26 : decode cX2_fitNumber 26 = .ok (.iaload, 1) := by decide +kernel
theorem dX2_fitNumber_27 : decode cX2_fitNumber 27 = .ok (.goto 5, 3) := by decide +kernel
theorem dX2_fitNumber_30 : decode cX2_fitNumber 30 = .ok (.bipush (-2), 2) := by decide +kernel
theorem dX2_fitNumber_32 : decode cX2_fitNumber 32 = .ok (.ireturn, 1) := by decide +kernel
theorem dX2_inSomeFit_0 : decode cX2_inSomeFit 0 = .ok (.iconst 0, 1) := by decide +kernel
theorem dX2_inSomeFit_1 : decode cX2_inSomeFit 1 = .ok (.istore_n 1, 1) := by decide +kernel
theorem dX2_inSomeFit_2 : decode cX2_inSomeFit 2 = .ok (.iconst 0, 1) := by decide +kernel
theorem dX2_inSomeFit_3 : decode cX2_inSomeFit 3 = .ok (.istore_n 2, 1) := by decide +kernel
theorem dX2_inSomeFit_4 : decode cX2_inSomeFit 4 = .ok (.iload_n 2, 1) := by decide +kernel
theorem dX2_inSomeFit_5 : decode cX2_inSomeFit 5 = .ok (.aload_n 0, 1) := by decide +kernel
theorem dX2_inSomeFit_6 : decode cX2_inSomeFit 6 = .ok (.getfield 51, 3) := by decide +kernel
theorem dX2_inSomeFit_9 : decode cX2_inSomeFit 9 = .ok (.if_icmp .ge 17, 3) := by decide +kernel
theorem dX2_inSomeFit_12 : decode cX2_inSomeFit 12 = .ok (.iload_n 1, 1) := by decide +kernel
theorem dX2_inSomeFit_13 : decode cX2_inSomeFit 13 = .ok (.aload_n 0, 1) := by decide +kernel
theorem dX2_inSomeFit_14 : decode cX2_inSomeFit 14 = .ok (.iload_n 2, 1) := by decide +kernel
theorem dX2_inSomeFit_15 : decode cX2_inSomeFit 15 = .ok (.invokevirtual 62, 3) := by decide +kernel
theorem dX2_inSomeFit_18 : decode cX2_inSomeFit 18 = .ok (.ior, 1) := by decide +kernel
theorem dX2_inSomeFit_19 : decode cX2_inSomeFit 19 = .ok (.istore_n 1, 1) := by decide +kernel
theorem dX2_inSomeFit_20 : decode cX2_inSomeFit 20 = .ok (.iinc 2 1, 3) := by decide +kernel
theorem dX2_inSomeFit_23 : decode cX2_inSomeFit 23 = .ok (.goto (-19), 3) := by decide +kernel
theorem dX2_inSomeFit_26 : decode cX2_inSomeFit 26 = .ok (.iload_n 1, 1) := by decide +kernel
theorem dX2_inSomeFit_27 : decode cX2_inSomeFit 27 = .ok (.ireturn, 1) := by decide +kernel
theorem dX2_inEveryFit_0 : decode cX2_inEveryFit 0 = .ok (.aload_n 0, 1) := by decide +kernel
theorem dX2_inEveryFit_1 : decode cX2_inEveryFit 1 = .ok (.getfield 51, 3) := by decide +kernel
theorem dX2_inEveryFit_4 : decode cX2_inEveryFit 4 = .ok (.ifCond .ne 7, 3) := by decide +kernel
theorem dX2_inEveryFit_7 : decode cX2_inEveryFit 7 = .ok (.iconst 0, 1) := by decide +kernel
theorem dX2_inEveryFit_8 : decode cX2_inEveryFit 8 = .ok (.goto 8, 3) := by decide +kernel
theorem dX2_inEveryFit_11 : decode cX2_inEveryFit 11 = .ok (.aload_n 0, 1) := by decide +kernel
theorem dX2_inEveryFit_12 : decode cX2_inEveryFit 12 = .ok (.iconst 0, 1) := by decide +kernel
theorem dX2_inEveryFit_13 : decode cX2_inEveryFit 13 = .ok (.invokevirtual 62, 3) := by decide +kernel
theorem dX2_inEveryFit_16 : decode cX2_inEveryFit 16 = .ok (.istore_n 1, 1) := by decide +kernel
theorem dX2_inEveryFit_17 : decode cX2_inEveryFit 17 = .ok (.iconst 1, 1) := by decide +kernel
theorem dX2_inEveryFit_18 : decode cX2_inEveryFit 18 = .ok (.istore_n 2, 1) := by decide +kernel
theorem dX2_inEveryFit_19 : decode cX2_inEveryFit 19 = .ok (.iload_n 2, 1) := by decide +kernel
theorem dX2_inEveryFit_20 : decode cX2_inEveryFit 20 = .ok (.aload_n 0, 1) := by decide +kernel
theorem dX2_inEveryFit_21 : decode cX2_inEveryFit 21 = .ok (.getfield 51, 3) := by decide +kernel
theorem dX2_inEveryFit_24 : decode cX2_inEveryFit 24 = .ok (.if_icmp .ge 17, 3) := by decide +kernel
theorem dX2_inEveryFit_27 : decode cX2_inEveryFit 27 = .ok (.iload_n 1, 1) := by decide +kernel
theorem dX2_inEveryFit_28 : decode cX2_inEveryFit 28 = .ok (.aload_n 0, 1) := by decide +kernel
theorem dX2_inEveryFit_29 : decode cX2_inEveryFit 29 = .ok (.iload_n 2, 1) := by decide +kernel
theorem dX2_inEveryFit_30 : decode cX2_inEveryFit 30 = .ok (.invokevirtual 62, 3) := by decide +kernel
theorem dX2_inEveryFit_33 : decode cX2_inEveryFit 33 = .ok (.iand, 1) := by decide +kernel
theorem dX2_inEveryFit_34 : decode cX2_inEveryFit 34 = .ok (.istore_n 1, 1) := by decide +kernel
theorem dX2_inEveryFit_35 : decode cX2_inEveryFit 35 = .ok (.iinc 2 1, 3) := by decide +kernel
theorem dX2_inEveryFit_38 : decode cX2_inEveryFit 38 = .ok (.goto (-19), 3) := by decide +kernel
theorem dX2_inEveryFit_41 : decode cX2_inEveryFit 41 = .ok (.iload_n 1, 1) := by decide +kernel
theorem dX2_inEveryFit_42 : decode cX2_inEveryFit 42 = .ok (.ireturn, 1) := by decide +kernel
theorem dX2_leftAtMost_0 : decode cX2_leftAtMost 0 = .ok (.iconst 0, 1) := by decide +kernel
theorem dX2_leftAtMost_1 : decode cX2_leftAtMost 1 = .ok (.istore_n 2, 1) := by decide +kernel
theorem dX2_leftAtMost_2 : decode cX2_leftAtMost 2 = .ok (.iconst 0, 1) := by decide +kernel
theorem dX2_leftAtMost_3 : decode cX2_leftAtMost 3 = .ok (.istore_n 3, 1) := by decide +kernel
theorem dX2_leftAtMost_4 : decode cX2_leftAtMost 4 = .ok (.iload_n 3, 1) := by decide +kernel
theorem dX2_leftAtMost_5 : decode cX2_leftAtMost 5 = .ok (.aload_n 0, 1) := by decide +kernel
theorem dX2_leftAtMost_6 : decode cX2_leftAtMost 6 = .ok (.getfield 51, 3) := by decide +kernel
theorem dX2_leftAtMost_9 : decode cX2_leftAtMost 9 = .ok (.if_icmp .ge 21, 3) := by decide +kernel
theorem dX2_leftAtMost_12 : decode cX2_leftAtMost 12 = .ok (.iload_n 2, 1) := by decide +kernel
theorem dX2_leftAtMost_13 : decode cX2_leftAtMost 13 = .ok (.aload_n 0, 1) := by decide +kernel
theorem dX2_leftAtMost_14 : decode cX2_leftAtMost 14 = .ok (.iload_n 3, 1) := by decide +kernel
theorem dX2_leftAtMost_15 : decode cX2_leftAtMost 15 = .ok (.invokevirtual 62, 3) := by decide +kernel
theorem dX2_leftAtMost_18 : decode cX2_leftAtMost 18 = .ok (.iload_n 1, 1) := by decide +kernel
theorem dX2_leftAtMost_19 : decode cX2_leftAtMost 19 = .ok (.ishr, 1) := by decide +kernel
theorem dX2_leftAtMost_20 : decode cX2_leftAtMost 20 = .ok (.iconst 1, 1) := by decide +kernel
theorem dX2_leftAtMost_21 : decode cX2_leftAtMost 21 = .ok (.iand, 1) := by decide +kernel
theorem dX2_leftAtMost_22 : decode cX2_leftAtMost 22 = .ok (.iadd, 1) := by decide +kernel
theorem dX2_leftAtMost_23 : decode cX2_leftAtMost 23 = .ok (.istore_n 2, 1) := by decide +kernel
theorem dX2_leftAtMost_24 : decode cX2_leftAtMost 24 = .ok (.iinc 3 1, 3) := by decide +kernel
theorem dX2_leftAtMost_27 : decode cX2_leftAtMost 27 = .ok (.goto (-23), 3) := by decide +kernel
theorem dX2_leftAtMost_30 : decode cX2_leftAtMost 30 = .ok (.iload_n 2, 1) := by decide +kernel
theorem dX2_leftAtMost_31 : decode cX2_leftAtMost 31 = .ok (.aload_n 0, 1) := by decide +kernel
theorem dX2_leftAtMost_32 : decode cX2_leftAtMost 32 = .ok (.getfield 51, 3) := by decide +kernel
theorem dX2_leftAtMost_35 : decode cX2_leftAtMost 35 = .ok (.iload_n 2, 1) := by decide +kernel
theorem dX2_leftAtMost_36 : decode cX2_leftAtMost 36 = .ok (.isub, 1) := by decide +kernel
theorem dX2_leftAtMost_37 : decode cX2_leftAtMost 37 = .ok (.invokestatic 66, 3) := by decide +kernel
theorem dX2_leftAtMost_40 : decode cX2_leftAtMost 40 = .ok (.ireturn, 1) := by decide +kernel
theorem dX2_bestToAsk_0 : decode cX2_bestToAsk 0 = .ok (.aload_n 0, 1) := by decide +kernel
theorem dX2_bestToAsk_1 : decode cX2_bestToAsk 1 = .ok (.getfield 51, 3) := by decide +kernel
theorem dX2_bestToAsk_4 : decode cX2_bestToAsk 4 = .ok (.ifCond .eq 10, 3) := by decide +kernel
theorem dX2_bestToAsk_7 : decode cX2_bestToAsk 7 = .ok (.aload_n 0, 1) := by decide +kernel
theorem dX2_bestToAsk_8 : decode cX2_bestToAsk 8 = .ok (.getfield 29, 3) := by decide +kernel
theorem dX2_bestToAsk_11 : decode cX2_bestToAsk 11 = .ok (.ifCond .ne 6, 3) := by decide +kernel
theorem dX2_bestToAsk_14 : decode cX2_bestToAsk 14 = .ok (.bipush (-2), 2) := by decide +kernel
theorem dX2_bestToAsk_16 : decode cX2_bestToAsk 16 = .ok (.ireturn, 1) := by decide +kernel
theorem dX2_bestToAsk_17 : decode cX2_bestToAsk 17 = .ok (.iconst 0, 1) := by decide +kernel
theorem dX2_bestToAsk_18 : decode cX2_bestToAsk 18 = .ok (.istore_n 1, 1) := by decide +kernel
theorem dX2_bestToAsk_19 : decode cX2_bestToAsk 19 = .ok (.iconst 1, 1) := by decide +kernel
theorem dX2_bestToAsk_20 : decode cX2_bestToAsk 20 = .ok (.istore_n 2, 1) := by decide +kernel
theorem dX2_bestToAsk_21 : decode cX2_bestToAsk 21 = .ok (.iload_n 2, 1) := by decide +kernel
theorem dX2_bestToAsk_22 : decode cX2_bestToAsk 22 = .ok (.aload_n 0, 1) := by decide +kernel
theorem dX2_bestToAsk_23 : decode cX2_bestToAsk 23 = .ok (.getfield 29, 3) := by decide +kernel
theorem dX2_bestToAsk_26 : decode cX2_bestToAsk 26 = .ok (.if_icmp .ge 24, 3) := by decide +kernel
theorem dX2_bestToAsk_29 : decode cX2_bestToAsk 29 = .ok (.aload_n 0, 1) := by decide +kernel
theorem dX2_bestToAsk_30 : decode cX2_bestToAsk 30 = .ok (.iload_n 2, 1) := by decide +kernel
theorem dX2_bestToAsk_31 : decode cX2_bestToAsk 31 = .ok (.invokevirtual 72, 3) := by decide +kernel
theorem dX2_bestToAsk_34 : decode cX2_bestToAsk 34 = .ok (.aload_n 0, 1) := by decide +kernel
theorem dX2_bestToAsk_35 : decode cX2_bestToAsk 35 = .ok (.iload_n 1, 1) := by decide +kernel
theorem dX2_bestToAsk_36 : decode cX2_bestToAsk 36 = .ok (.invokevirtual 72, 3) := by decide +kernel
theorem dX2_bestToAsk_39 : decode cX2_bestToAsk 39 = .ok (.if_icmp .ge 5, 3) := by decide +kernel
theorem dX2_bestToAsk_42 : decode cX2_bestToAsk 42 = .ok (.iload_n 2, 1) := by decide +kernel
theorem dX2_bestToAsk_43 : decode cX2_bestToAsk 43 = .ok (.istore_n 1, 1) := by decide +kernel
theorem dX2_bestToAsk_44 : decode cX2_bestToAsk 44 = .ok (.iinc 2 1, 3) := by decide +kernel
theorem dX2_bestToAsk_47 : decode cX2_bestToAsk 47 = .ok (.goto (-26), 3) := by decide +kernel
theorem dX2_bestToAsk_50 : decode cX2_bestToAsk 50 = .ok (.iload_n 1, 1) := by decide +kernel
theorem dX2_bestToAsk_51 : decode cX2_bestToAsk 51 = .ok (.ireturn, 1) := by decide +kernel
