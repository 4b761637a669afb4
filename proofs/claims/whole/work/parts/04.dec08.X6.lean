theorem dX6_putValue_36 : decode cX6_putValue 36 = .ok (.aload_n 0, 1) := by decide +kernel
theorem dX6_putValue_37 : decode cX6_putValue 37 = .ok (.iload_n 1, 1) := by decide +kernel
theorem dX6_putValue_38 : decode cX6_putValue 38 = .ok (.iload 4, 2) := by decide +kernel
theorem dX6_putValue_40 : decode cX6_putValue 40 = .ok (.invokevirtual 182, 3) := by decide +kernel
theorem dX6_putValue_43 : decode cX6_putValue 43 = .ok (.ifCond .eq 14, 3) := by decide +kernel
theorem dX6_putValue_46 : decode cX6_putValue 46 = .ok (.aload_n 0, 1) := by decide +kernel
theorem dX6_putValue_47 : decode cX6_putValue 47 = .ok (.getfield 22, 3) := by decide +kernel
theorem dX6_putValue_50 : decode cX6_putValue 50 = .ok (.iload 4, 2) := by decide +kernel
theorem dX6_putValue_52 : decode cX6_putValue 52 = .ok (.iload_n 3, 1) := by decide +kernel
theorem dX6_putValue_53 : decode cX6_putValue 53 = .ok (.iastore, 1) := by decide +kernel
theorem dX6_putValue_54 : decode cX6_putValue 54 = .ok (.iload 4, 2) := by decide +kernel
theorem dX6_putValue_56 : decode cX6_putValue 56 = .ok (.ireturn, 1) := by decide +kernel
theorem dX6_putValue_57 : decode cX6_putValue 57 = .ok (.aload_n 0, 1) := by decide +kernel
theorem dX6_putValue_58 : decode cX6_putValue 58 = .ok (.iload 4, 2) := by decide +kernel
theorem dX6_putValue_60 : decode cX6_putValue 60 = .ok (.invokevirtual 102, 3) := by decide +kernel
theorem dX6_putValue_63 : decode cX6_putValue 63 = .ok (.ifCond .eq 15, 3) := by decide +kernel
theorem dX6_putValue_66 : decode cX6_putValue 66 = .ok (.aload_n 0, 1) := by decide +kernel
theorem dX6_putValue_67 : decode cX6_putValue 67 = .ok (.getfield 28, 3) := by decide +kernel
theorem dX6_putValue_70 : decode cX6_putValue 70 = .ok (.iload 4, 2) := by decide +kernel
theorem dX6_putValue_72 : decode cX6_putValue 72 = .ok (.aload_n 0, 1) := by decide +kernel
theorem dX6_putValue_73 : decode cX6_putValue 73 = .ok (.iload_n 1, 1) := by decide +kernel
theorem dX6_putValue_74 : decode cX6_putValue 74 = .ok (.invokevirtual 146, 3) := by decide +kernel
theorem dX6_putValue_77 : decode cX6_putValue 77 = .ok (.iastore, 1) := by decide +kernel
theorem dX6_putValue_78 : decode cX6_putValue 78 = .ok (.aload_n 0, 1) := by decide +kernel
theorem dX6_putValue_79 : decode cX6_putValue 79 = .ok (.iload_n 2, 1) := by decide +kernel
theorem dX6_putValue_80 : decode cX6_putValue 80 = .ok (.iload_n 3, 1) := by decide +kernel
theorem dX6_putValue_81 : decode cX6_putValue 81 = .ok (.aload_n 0, 1) := by decide +kernel
theorem dX6_putValue_82 : decode cX6_putValue 82 = .ok (.iload_n 1, 1) := by decide +kernel
theorem dX6_putValue_83 : decode cX6_putValue 83 = .ok (.invokevirtual 146, 3) := by decide +kernel
theorem dX6_putValue_86 : decode cX6_putValue 86 = .ok (.invokevirtual 186, 3) := by decide +kernel
theorem dX6_putValue_89 : decode cX6_putValue 89 = .ok (.ireturn, 1) := by decide +kernel
theorem dX6_dropTrouble_0 : decode cX6_dropTrouble 0 = .ok (.aload_n 0, 1) := by decide +kernel
theorem dX6_dropTrouble_1 : decode cX6_dropTrouble 1 = .ok (.iload_n 1, 1) := by decide +kernel
theorem dX6_dropTrouble_2 : decode cX6_dropTrouble 2 = .ok (.iload_n 2, 1) := by decide +kernel
theorem dX6_dropTrouble_3 : decode cX6_dropTrouble 3 = .ok (.invokevirtual 169, 3) := by decide +kernel
theorem dX6_dropTrouble_6 : decode cX6_dropTrouble 6 = .ok (.istore_n 3, 1) := by decide +kernel
theorem dX6_dropTrouble_7 : decode cX6_dropTrouble 7 = .ok (.iload_n 3, 1) := by decide +kernel
theorem dX6_dropTrouble_8 : decode cX6_dropTrouble 8 = .ok (.iconst 1, 1) := by decide +kernel
theorem dX6_dropTrouble_9 : decode cX6_dropTrouble 9 = .ok (.if_icmp .eq 8, 3) := by decide +kernel
theorem dX6_dropTrouble_12 : decode cX6_dropTrouble 12 = .ok (.iload_n 3, 1) := by decide +kernel
theorem dX6_dropTrouble_13 : decode cX6_dropTrouble 13 = .ok (.iconst 3, 1) := by decide +kernel
theorem dX6_dropTrouble_14 : decode cX6_dropTrouble 14 = .ok (.if_icmp .ne 5, 3) := by decide +kernel
theorem dX6_dropTrouble_17 : decode cX6_dropTrouble 17 = .ok (.iconst 5, 1) := by decide +kernel
theorem dX6_dropTrouble_18 : decode cX6_dropTrouble 18 = .ok (.ireturn, 1) := by decide +kernel
theorem dX6_dropTrouble_19 : decode cX6_dropTrouble 19 = .ok (.iload_n 3, 1) := by decide +kernel
theorem dX6_dropTrouble_20 : decode cX6_dropTrouble 20 = .ok (.iconst 2, 1) := by decide +kernel
theorem dX6_dropTrouble_21 : decode cX6_dropTrouble 21 = .ok (.if_icmp .ne 5, 3) := by decide +kernel
theorem dX6_dropTrouble_24 : decode cX6_dropTrouble 24 = .ok (.iconst 0, 1) := by decide +kernel
theorem dX6_dropTrouble_25 : decode cX6_dropTrouble 25 = .ok (.ireturn, 1) := by decide +kernel
theorem dX6_dropTrouble_26 : decode cX6_dropTrouble 26 = .ok (.aload_n 0, 1) := by decide +kernel
theorem dX6_dropTrouble_27 : decode cX6_dropTrouble 27 = .ok (.iload_n 2, 1) := by decide +kernel
theorem dX6_dropTrouble_28 : decode cX6_dropTrouble 28 = .ok (.aload_n 0, 1) := by decide +kernel
theorem dX6_dropTrouble_29 : decode cX6_dropTrouble 29 = .ok (.iload_n 1, 1) := by decide +kernel
theorem dX6_dropTrouble_30 : decode cX6_dropTrouble 30 = .ok (.invokevirtual 163, 3) := by decide +kernel
theorem dX6_dropTrouble_33 : decode cX6_dropTrouble 33 = .ok (.invokevirtual 153, 3) := by decide +kernel
theorem dX6_dropTrouble_36 : decode cX6_dropTrouble 36 = .ok (.bipush (-2), 2) := by decide +kernel
theorem dX6_dropTrouble_38 : decode cX6_dropTrouble 38 = .ok (.if_icmp .ne 8, 3) := by decide +kernel
theorem dX6_dropTrouble_41 : decode cX6_dropTrouble 41 = .ok (.bipush 6, 2) := by decide +kernel
theorem dX6_dropTrouble_43 : decode cX6_dropTrouble 43 = .ok (.goto 4, 3) := by decide +kernel
theorem dX6_dropTrouble_46 : decode cX6_dropTrouble 46 = .ok (.iconst 0, 1) := by decide +kernel
theorem dX6_dropTrouble_47 : decode cX6_dropTrouble 47 = .ok (.ireturn, 1) := by decide +kernel
theorem dX6_dropValue_0 : decode cX6_dropValue 0 = .ok (.aload_n 0, 1) := by decide +kernel
theorem dX6_dropValue_1 : decode cX6_dropValue 1 = .ok (.iload_n 1, 1) := by decide +kernel
theorem dX6_dropValue_2 : decode cX6_dropValue 2 = .ok (.iload_n 2, 1) := by decide +kernel
theorem dX6_dropValue_3 : decode cX6_dropValue 3 = .ok (.invokevirtual 169, 3) := by decide +kernel
theorem dX6_dropValue_6 : decode cX6_dropValue 6 = .ok (.ifCond .eq 18, 3) := by decide +kernel
theorem dX6_dropValue_9 : decode cX6_dropValue 9 = .ok (.aload_n 0, 1) := by decide +kernel
theorem dX6_dropValue_10 : decode cX6_dropValue 10 = .ok (.dup, 1) := by decide +kernel
theorem dX6_dropValue_11 : decode cX6_dropValue 11 = .ok (.getfield 56, 3) := by decide +kernel
theorem dX6_dropValue_14 : decode cX6_dropValue 14 = .ok (.iconst 1, 1) := by decide +kernel
theorem dX6_dropValue_15 : decode cX6_dropValue 15 = .ok (.iload_n 1, 1) := by decide +kernel
theorem dX6_dropValue_16 : decode cX6_dropValue 16 = .ok (.ishl, 1) := by decide +kernel
theorem dX6_dropValue_17 : decode cX6_dropValue 17 = .ok (.ior, 1) := by decide +kernel
theorem dX6_dropValue_18 : decode cX6_dropValue 18 = .ok (.putfield 56, 3) := by decide +kernel
theorem dX6_dropValue_21 : decode cX6_dropValue 21 = .ok (.bipush (-2), 2) := by decide +kernel
theorem dX6_dropValue_23 : decode cX6_dropValue 23 = .ok (.ireturn, 1) := by decide +kernel
theorem dX6_dropValue_24 : decode cX6_dropValue 24 = .ok (.aload_n 0, 1) := by decide +kernel
theorem dX6_dropValue_25 : decode cX6_dropValue 25 = .ok (.iload_n 2, 1) := by decide +kernel
theorem dX6_dropValue_26 : decode cX6_dropValue 26 = .ok (.aload_n 0, 1) := by decide +kernel
theorem dX6_dropValue_27 : decode cX6_dropValue 27 = .ok (.iload_n 1, 1) := by decide +kernel
theorem dX6_dropValue_28 : decode cX6_dropValue 28 = .ok (.invokevirtual 163, 3) := by decide +kernel
theorem dX6_dropValue_31 : decode cX6_dropValue 31 = .ok (.invokevirtual 153, 3) := by decide +kernel
theorem dX6_dropValue_34 : decode cX6_dropValue 34 = .ok (.istore_n 3, 1) := by decide +kernel
theorem dX6_dropValue_35 : decode cX6_dropValue 35 = .ok (.aload_n 0, 1) := by decide +kernel
theorem dX6_dropValue_36 : decode cX6_dropValue 36 = .ok (.iload_n 3, 1) := by decide +kernel
theorem dX6_dropValue_37 : decode cX6_dropValue 37 = .ok (.invokevirtual 102, 3) := by decide +kernel
theorem dX6_dropValue_40 : decode cX6_dropValue 40 = .ok (.ifCond .eq 14, 3) := by decide +kernel
theorem dX6_dropValue_43 : decode cX6_dropValue 43 = .ok (.aload_n 0, 1) := by decide +kernel
theorem dX6_dropValue_44 : decode cX6_dropValue 44 = .ok (.getfield 28, 3) := by decide +kernel
theorem dX6_dropValue_47 : decode cX6_dropValue 47 = .ok (.iload_n 3, 1) := by decide +kernel
theorem dX6_dropValue_48 : decode cX6_dropValue 48 = .ok (.aload_n 0, 1) := by decide +kernel
theorem dX6_dropValue_49 : decode cX6_dropValue 49 = .ok (.iload_n 1, 1) := by decide +kernel
theorem dX6_dropValue_50 : decode cX6_dropValue 50 = .ok (.invokevirtual 146, 3) := by decide +kernel
theorem dX6_dropValue_53 : decode cX6_dropValue 53 = .ok (.iastore, 1) := by decide +kernel
theorem dX6_dropValue_54 : decode cX6_dropValue 54 = .ok (.iload_n 3, 1) := by decide +kernel
theorem dX6_dropValue_55 : decode cX6_dropValue 55 = .ok (.ireturn, 1) := by decide +kernel
theorem dX6_endWriter_0 : decode cX6_endWriter 0 = .ok (.aload_n 0, 1) := by decide +kernel
theorem dX6_endWriter_1 : decode cX6_endWriter 1 = .ok (.iload_n 1, 1) := by decide +kernel
theorem dX6_endWriter_2 : decode cX6_endWriter 2 = .ok (.invokevirtual 126, 3) := by decide +kernel
theorem dX6_endWriter_5 : decode cX6_endWriter 5 = .ok (.ifCond .ne 6, 3) := by decide +kernel
theorem dX6_endWriter_8 : decode cX6_endWriter 8 = .ok (.bipush (-2), 2) := by decide +kernel
theorem dX6_endWriter_10 : decode cX6_endWriter 10 = .ok (.ireturn, 1) := by decide +kernel
theorem dX6_endWriter_11 : decode cX6_endWriter 11 = .ok (.aload_n 0, 1) := by decide +kernel
theorem dX6_endWriter_12 : decode cX6_endWriter 12 = .ok (.getfield 9, 3) := by decide +kernel
theorem dX6_endWriter_15 : decode cX6_endWriter 15 = .ok (.iload_n 1, 1) := by decide +kernel
theorem dX6_endWriter_16 : decode cX6_endWriter 16 = .ok (.iaload, 1) := by decide +kernel
theorem dX6_endWriter_17 : decode cX6_endWriter 17 = .ok (.istore_n 3, 1) := by decide +kernel
theorem dX6_endWriter_18 : decode cX6_endWriter 18 = .ok (.aload_n 0, 1) := by decide +kernel
theorem dX6_endWriter_19 : decode cX6_endWriter 19 = .ok (.getfield 9, 3) := by decide +kernel
theorem dX6_endWriter_22 : decode cX6_endWriter 22 = .ok (.iload_n 1, 1) := by decide +kernel
theorem dX6_endWriter_23 : decode cX6_endWriter 23 = .ok (.bipush (-2), 2) := by decide +kernel
theorem dX6_endWriter_25 : decode cX6_endWriter 25 = .ok (.iastore, 1) := by decide +kernel
theorem dX6_endWriter_26 : decode cX6_endWriter 26 = .ok (.aload_n 0, 1) := by decide +kernel
theorem dX6_endWriter_27 : decode cX6_endWriter 27 = .ok (.getfield 15, 3) := by decide +kernel
theorem dX6_endWriter_30 : decode cX6_endWriter 30 = .ok (.iload_n 1, 1) := by decide +kernel
theorem dX6_endWriter_31 : decode cX6_endWriter 31 = .ok (.lconst 0, 1) := by decide +kernel
theorem dX6_endWriter_32 : decode cX6_endWriter 32 = .ok (.lastore, 1) := by decide +kernel
theorem dX6_endWriter_33 : decode cX6_endWriter 33 = .ok (.aload_n 0, 1) := by decide +kernel
theorem dX6_endWriter_34 : decode cX6_endWriter 34 = .ok (.dup, 1) := by decide +kernel
theorem dX6_endWriter_35 : decode cX6_endWriter 35 = .ok (.getfield 59, 3) := by decide +kernel
theorem dX6_endWriter_38 : decode cX6_endWriter 38 = .ok (.lconst 1, 1) := by decide +kernel
theorem dX6_endWriter_39 : decode cX6_endWriter 39 = .ok (.iload_n 3, 1) := by decide +kernel
theorem dX6_endWriter_40 : decode cX6_endWriter 40 = .ok (.lshl, 1) := by decide +kernel
theorem dX6_endWriter_41 : decode cX6_endWriter 41 = .ok (.ldc2_w 116, 3) := by decide +kernel
theorem dX6_endWriter_44 : decode cX6_endWriter 44 = .ok (.lxor, 1) := by decide +kernel
theorem dX6_endWriter_45 : decode cX6_endWriter 45 = .ok (.land, 1) := by decide +kernel
theorem dX6_endWriter_46 : decode cX6_endWriter 46 = .ok (.putfield 59, 3) := by decide +kernel
theorem dX6_endWriter_49 : decode cX6_endWriter 49 = .ok (.iload_n 2, 1) := by decide +kernel
theorem dX6_endWriter_50 : decode cX6_endWriter 50 = .ok (.ifCond .eq 18, 3) := by decide +kernel
theorem dX6_endWriter_53 : decode cX6_endWriter 53 = .ok (.aload_n 0, 1) := by decide +kernel
theorem dX6_endWriter_54 : decode cX6_endWriter 54 = .ok (.dup, 1) := by decide +kernel
theorem dX6_endWriter_55 : decode cX6_endWriter 55 = .ok (.getfield 63, 3) := by decide +kernel
theorem dX6_endWriter_58 : decode cX6_endWriter 58 = .ok (.lconst 1, 1) := by decide +kernel
theorem dX6_endWriter_59 : decode cX6_endWriter 59 = .ok (.iload_n 3, 1) := by decide +kernel
theorem dX6_endWriter_60 : decode cX6_endWriter 60 = .ok (.lshl, 1) := by decide +kernel
theorem dX6_endWriter_61 : decode cX6_endWriter 61 = .ok (.lor, 1) := by decide +kernel
theorem dX6_endWriter_62 : decode cX6_endWriter 62 = .ok (.putfield 63, 3) := by decide +kernel
theorem dX6_endWriter_65 : decode cX6_endWriter 65 = .ok (.goto 15, 3) := by decide +kernel
theorem dX6_endWriter_68 : decode cX6_endWriter 68 = .ok (.aload_n 0, 1) := by decide +kernel
theorem dX6_endWriter_69 : decode cX6_endWriter 69 = .ok (.dup, 1) := by decide +kernel
theorem dX6_endWriter_70 : decode cX6_endWriter 70 = .ok (.getfield 66, 3) := by decide +kernel
theorem dX6_endWriter_73 : decode cX6_endWriter 73 = .ok (.lconst 1, 1) := by decide +kernel
theorem dX6_endWriter_74 : decode cX6_endWriter 74 = .ok (.iload_n 3, 1) := by decide +kernel
theorem dX6_endWriter_75 : decode cX6_endWriter 75 = .ok (.lshl, 1) := by decide +kernel
theorem dX6_endWriter_76 : decode cX6_endWriter 76 = .ok (.lor, 1) := by decide +kernel
theorem dX6_endWriter_77 : decode cX6_endWriter 77 = .ok (.putfield 66, 3) := by decide +kernel
theorem dX6_endWriter_80 : decode cX6_endWriter 80 = .ok (.iload_n 3, 1) := by decide +kernel
theorem dX6_endWriter_81 : decode cX6_endWriter 81 = .ok (.ireturn, 1) := by decide +kernel
theorem dX6_clearDead_0 : decode cX6_clearDead 0 = .ok (.aload_n 0, 1) := by decide +kernel
theorem dX6_clearDead_1 : decode cX6_clearDead 1 = .ok (.bipush (-2), 2) := by decide +kernel
theorem dX6_clearDead_3 : decode cX6_clearDead 3 = .ok (.invokevirtual 109, 3) := by decide +kernel
theorem dX6_clearDead_6 : decode cX6_clearDead 6 = .ok (.lstore_n 1, 1) := by decide +kernel
theorem dX6_clearDead_7 : decode cX6_clearDead 7 = .ok (.aload_n 0, 1) := by decide +kernel
theorem dX6_clearDead_8 : decode cX6_clearDead 8 = .ok (.getfield 53, 3) := by decide +kernel
theorem dX6_clearDead_11 : decode cX6_clearDead 11 = .ok (.istore_n 3, 1) := by decide +kernel
theorem dX6_clearDead_12 : decode cX6_clearDead 12 = .ok (.iconst 0, 1) := by decide +kernel
theorem dX6_clearDead_13 : decode cX6_clearDead 13 = .ok (.istore 4, 2) := by decide +kernel
theorem dX6_clearDead_15 : decode cX6_clearDead 15 = .ok (.iconst 0, 1) := by decide +kernel
theorem dX6_clearDead_16 : decode cX6_clearDead 16 = .ok (.istore 5, 2) := by decide +kernel
theorem dX6_clearDead_18 : decode cX6_clearDead 18 = .ok (.iload 5, 2) := by decide +kernel
theorem dX6_clearDead_20 : decode cX6_clearDead 20 = .ok (.iload_n 3, 1) := by decide +kernel
theorem dX6_clearDead_21 : decode cX6_clearDead 21 = .ok (.if_icmp .ge 67, 3) := by decide +kernel
theorem dX6_clearDead_24 : decode cX6_clearDead 24 = .ok (.aload_n 0, 1) := by decide +kernel
theorem dX6_clearDead_25 : decode cX6_clearDead 25 = .ok (.iload 5, 2) := by decide +kernel
theorem dX6_clearDead_27 : decode cX6_clearDead 27 = .ok (.invokevirtual 137, 3) := by decide +kernel
theorem dX6_clearDead_30 : decode cX6_clearDead 30 = .ok (.istore 6, 2) := by decide +kernel
theorem dX6_clearDead_32 : decode cX6_clearDead 32 = .ok (.aload_n 0, 1) := by decide +kernel
theorem dX6_clearDead_33 : decode cX6_clearDead 33 = .ok (.iload 6, 2) := by decide +kernel
theorem dX6_clearDead_35 : decode cX6_clearDead 35 = .ok (.invokevirtual 102, 3) := by decide +kernel
theorem dX6_clearDead_38 : decode cX6_clearDead 38 = .ok (.ifCond .ne 6, 3) := by decide +kernel
theorem dX6_clearDead_41 : decode cX6_clearDead 41 = .ok (.goto 41, 3) := by decide +kernel
theorem dX6_clearDead_44 : decode cX6_clearDead 44 = .ok (.aload_n 0, 1) := by decide +kernel
theorem dX6_clearDead_45 : decode cX6_clearDead 45 = .ok (.iload 6, 2) := by decide +kernel
theorem dX6_clearDead_47 : decode cX6_clearDead 47 = .ok (.aload_n 0, 1) := by decide +kernel
theorem dX6_clearDead_48 : decode cX6_clearDead 48 = .ok (.getfield 66, 3) := by decide +kernel
theorem dX6_clearDead_51 : decode cX6_clearDead 51 = .ok (.lload_n 1, 1) := by decide +kernel
theorem dX6_clearDead_52 : decode cX6_clearDead 52 = .ok (.invokevirtual 112, 3) := by decide +kernel
theorem dX6_clearDead_55 : decode cX6_clearDead 55 = .ok (.ifCond .eq 15, 3) := by decide +kernel
theorem dX6_clearDead_58 : decode cX6_clearDead 58 = .ok (.aload_n 0, 1) := by decide +kernel
theorem dX6_clearDead_59 : decode cX6_clearDead 59 = .ok (.getfield 19, 3) := by decide +kernel
theorem dX6_clearDead_62 : decode cX6_clearDead 62 = .ok (.iload 6, 2) := by decide +kernel
theorem dX6_clearDead_64 : decode cX6_clearDead 64 = .ok (.bipush (-2), 2) := by decide +kernel
theorem dX6_clearDead_66 : decode cX6_clearDead 66 = .ok (.iastore, 1) := by decide +kernel
theorem dX6_clearDead_67 : decode cX6_clearDead 67 = .ok (.goto 15, 3) := by decide +kernel
theorem dX6_clearDead_70 : decode cX6_clearDead 70 = .ok (.aload_n 0, 1) := by decide +kernel
theorem dX6_clearDead_71 : decode cX6_clearDead 71 = .ok (.getfield 31, 3) := by decide +kernel
theorem dX6_clearDead_74 : decode cX6_clearDead 74 = .ok (.iload 4, 2) := by decide +kernel
theorem dX6_clearDead_76 : decode cX6_clearDead 76 = .ok (.iload 6, 2) := by decide +kernel
theorem dX6_clearDead_78 : decode cX6_clearDead 78 = .ok (.iastore, 1) := by decide +kernel
theorem dX6_clearDead_79 : decode cX6_clearDead 79 = .ok (.iinc 4 1, 3) := by decide +kernel
theorem dX6_clearDead_82 : decode cX6_clearDead 82 = .ok (.iinc 5 1, 3) := by decide +kernel
theorem dX6_clearDead_85 : decode cX6_clearDead 85 = .ok (.goto (-67), 3) := by decide +kernel
theorem dX6_clearDead_88 : decode cX6_clearDead 88 = .ok (.aload_n 0, 1) := by decide +kernel
theorem dX6_clearDead_89 : decode cX6_clearDead 89 = .ok (.iload 4, 2) := by decide +kernel
theorem dX6_clearDead_91 : decode cX6_clearDead 91 = .ok (.putfield 53, 3) := by decide +kernel
theorem dX6_clearDead_94 : decode cX6_clearDead 94 = .ok (.iload_n 3, 1) := by decide +kernel
theorem dX6_clearDead_95 : decode cX6_clearDead 95 = .ok (.iload 4, 2) := by decide +kernel
theorem dX6_clearDead_97 : decode cX6_clearDead 97 = .ok (.isub, 1) := by decide +kernel
theorem dX6_clearDead_98 : decode cX6_clearDead 98 = .ok (.ireturn, 1) := by decide +kernel
theorem dX6_freezeAll_0 : decode cX6_freezeAll 0 = .ok (.aload_n 0, 1) := by decide +kernel
theorem dX6_freezeAll_1 : decode cX6_freezeAll 1 = .ok (.bipush (-2), 2) := by decide +kernel
theorem dX6_freezeAll_3 : decode cX6_freezeAll 3 = .ok (.invokevirtual 109, 3) := by decide +kernel
theorem dX6_freezeAll_6 : decode cX6_freezeAll 6 = .ok (.lstore_n 1, 1) := by decide +kernel
theorem dX6_freezeAll_7 : decode cX6_freezeAll 7 = .ok (.iconst 0, 1) := by decide +kernel
theorem dX6_freezeAll_8 : decode cX6_freezeAll 8 = .ok (.istore_n 3, 1) := by decide +kernel
theorem dX6_freezeAll_9 : decode cX6_freezeAll 9 = .ok (.iconst 0, 1) := by decide +kernel
theorem dX6_freezeAll_10 : decode cX6_freezeAll 10 = .ok (.istore 4, 2) := by decide +kernel
theorem dX6_freezeAll_12 : decode cX6_freezeAll 12 = .ok (.iload 4, 2) := by decide +kernel
theorem dX6_freezeAll_14 : decode cX6_freezeAll 14 = .ok (.bipush 48, 2) := by decide +kernel
theorem dX6_freezeAll_16 : decode cX6_freezeAll 16 = .ok (.if_icmp .ge 82, 3) := by decide +kernel
theorem dX6_freezeAll_19 : decode cX6_freezeAll 19 = .ok (.lload_n 1, 1) := by decide +kernel
theorem dX6_freezeAll_20 : decode cX6_freezeAll 20 = .ok (.aload_n 0, 1) := by decide +kernel
theorem dX6_freezeAll_21 : decode cX6_freezeAll 21 = .ok (.iload 4, 2) := by decide +kernel
theorem dX6_freezeAll_23 : decode cX6_freezeAll 23 = .ok (.invokevirtual 140, 3) := by decide +kernel
theorem dX6_freezeAll_26 : decode cX6_freezeAll 26 = .ok (.invokestatic 78, 3) := by decide +kernel
theorem dX6_freezeAll_29 : decode cX6_freezeAll 29 = .ok (.istore 5, 2) := by decide +kernel
theorem dX6_freezeAll_31 : decode cX6_freezeAll 31 = .ok (.aload_n 0, 1) := by decide +kernel
theorem dX6_freezeAll_32 : decode cX6_freezeAll 32 = .ok (.getfield 66, 3) := by decide +kernel
theorem dX6_freezeAll_35 : decode cX6_freezeAll 35 = .ok (.aload_n 0, 1) := by decide +kernel
theorem dX6_freezeAll_36 : decode cX6_freezeAll 36 = .ok (.iload 4, 2) := by decide +kernel
theorem dX6_freezeAll_38 : decode cX6_freezeAll 38 = .ok (.invokevirtual 143, 3) := by decide +kernel
theorem dX6_freezeAll_41 : decode cX6_freezeAll 41 = .ok (.invokestatic 78, 3) := by decide +kernel
theorem dX6_freezeAll_44 : decode cX6_freezeAll 44 = .ok (.istore 6, 2) := by decide +kernel
theorem dX6_freezeAll_46 : decode cX6_freezeAll 46 = .ok (.iload 5, 2) := by decide +kernel
theorem dX6_freezeAll_48 : decode cX6_freezeAll 48 = .ok (.ifCond .eq 12, 3) := by decide +kernel
theorem dX6_freezeAll_51 : decode cX6_freezeAll 51 = .ok (.aload_n 0, 1) := by decide +kernel
theorem dX6_freezeAll_52 : decode cX6_freezeAll 52 = .ok (.getfield 25, 3) := by decide +kernel
theorem dX6_freezeAll_55 : decode cX6_freezeAll 55 = .ok (.iload 4, 2) := by decide +kernel
theorem dX6_freezeAll_57 : decode cX6_freezeAll 57 = .ok (.bipush (-2), 2) := by decide +kernel
theorem dX6_freezeAll_59 : decode cX6_freezeAll 59 = .ok (.iastore, 1) := by decide +kernel
theorem dX6_freezeAll_60 : decode cX6_freezeAll 60 = .ok (.iload 6, 2) := by decide +kernel
theorem dX6_freezeAll_62 : decode cX6_freezeAll 62 = .ok (.ifCond .eq 12, 3) := by decide +kernel
theorem dX6_freezeAll_65 : decode cX6_freezeAll 65 = .ok (.aload_n 0, 1) := by decide +kernel
theorem dX6_freezeAll_66 : decode cX6_freezeAll 66 = .ok (.getfield 28, 3) := by decide +kernel
theorem dX6_freezeAll_69 : decode cX6_freezeAll 69 = .ok (.iload 4, 2) := by decide +kernel
theorem dX6_freezeAll_71 : decode cX6_freezeAll 71 = .ok (.bipush (-2), 2) := by decide +kernel
theorem dX6_freezeAll_73 : decode cX6_freezeAll 73 = .ok (.iastore, 1) := by decide +kernel
theorem dX6_freezeAll_74 : decode cX6_freezeAll 74 = .ok (.iload_n 3, 1) := by decide +kernel
theorem dX6_freezeAll_75 : decode cX6_freezeAll 75 = .ok (.iload 5, 2) := by decide +kernel
theorem dX6_freezeAll_77 : decode cX6_freezeAll 77 = .ok (.ifCond .ne 8, 3) := by decide +kernel
theorem dX6_freezeAll_80 : decode cX6_freezeAll 80 = .ok (.iload 6, 2) := by decide +kernel
theorem dX6_freezeAll_82 : decode cX6_freezeAll 82 = .ok (.ifCond .eq 7, 3) := by decide +kernel
theorem dX6_freezeAll_85 : decode cX6_freezeAll 85 = .ok (.iconst 1, 1) := by decide +kernel
theorem dX6_freezeAll_86 : decode cX6_freezeAll 86 = .ok (.goto 4, 3) := by decide +kernel
theorem dX6_freezeAll_89 : decode cX6_freezeAll 89 = .ok (.iconst 0, 1) := by decide +kernel
theorem dX6_freezeAll_90 : decode cX6_freezeAll 90 = .ok (.iadd, 1) := by decide +kernel
theorem dX6_freezeAll_91 : decode cX6_freezeAll 91 = .ok (.istore_n 3, 1) := by decide +kernel
theorem dX6_freezeAll_92 : decode cX6_freezeAll 92 = .ok (.iinc 4 1, 3) := by decide +kernel
theorem dX6_freezeAll_95 : decode cX6_freezeAll 95 = .ok (.goto (-83), 3) := by decide +kernel
theorem dX6_freezeAll_98 : decode cX6_freezeAll 98 = .ok (.iload_n 3, 1) := by decide +kernel
theorem dX6_freezeAll_99 : decode cX6_freezeAll 99 = .ok (.ireturn, 1) := by decide +kernel
