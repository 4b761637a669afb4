theorem dX5_init_0 : decode cX5_init 0 = .ok (.aload_n 0, 1) := by decide +kernel
theorem dX5_init_1 : decode cX5_init 1 = .ok (.invokespecial 3, 3) := by decide +kernel
theorem dX5_init_4 : decode cX5_init 4 = .ok (.aload_n 0, 1) := by decide +kernel
theorem dX5_init_5 : decode cX5_init 5 = .ok (.new 9, 3) := by decide +kernel
theorem dX5_init_8 : decode cX5_init 8 = .ok (.dup, 1) := by decide +kernel
theorem dX5_init_9 : decode cX5_init 9 = .ok (.invokespecial 11, 3) := by decide +kernel
theorem dX5_init_12 : decode cX5_init 12 = .ok (.putfield 12, 3) := by decide +kernel
theorem dX5_init_15 : decode cX5_init 15 = .ok (.aload_n 0, 1) := by decide +kernel
theorem dX5_init_16 : decode cX5_init 16 = .ok (.new 18, 3) := by decide +kernel
theorem dX5_init_19 : decode cX5_init 19 = .ok (.dup, 1) := by decide +kernel
theorem dX5_init_20 : decode cX5_init 20 = .ok (.invokespecial 20, 3) := by decide +kernel
theorem dX5_init_23 : decode cX5_init 23 = .ok (.putfield 21, 3) := by decide +kernel
theorem dX5_init_26 : decode cX5_init 26 = .ok (.aload_n 0, 1) := by decide +kernel
theorem dX5_init_27 : decode cX5_init 27 = .ok (.new 25, 3) := by decide +kernel
theorem dX5_init_30 : decode cX5_init 30 = .ok (.dup, 1) := by decide +kernel
theorem dX5_init_31 : decode cX5_init 31 = .ok (.invokespecial 27, 3) := by decide +kernel
theorem dX5_init_34 : decode cX5_init 34 = .ok (.putfield 28, 3) := by decide +kernel
theorem dX5_init_37 : decode cX5_init 37 = .ok (.aload_n 0, 1) := by decide +kernel
theorem dX5_init_38 : decode cX5_init 38 = .ok (.bipush 12, 2) := by decide +kernel
theorem dX5_init_40 : decode cX5_init 40 = .ok (.newarray .long, 2) := by decide +kernel
theorem dX5_init_42 : decode cX5_init 42 = .ok (.putfield 32, 3) := by decide +kernel
theorem dX5_init_45 : decode cX5_init 45 = .ok (.aload_n 0, 1) := by decide +kernel
theorem dX5_init_46 : decode cX5_init 46 = .ok (.bipush 12, 2) := by decide +kernel
theorem dX5_init_48 : decode cX5_init 48 = .ok (.newarray .int, 2) := by decide +kernel
theorem dX5_init_50 : decode cX5_init 50 = .ok (.putfield 36, 3) := by decide +kernel
theorem dX5_init_53 : decode cX5_init 53 = .ok (.aload_n 0, 1) := by decide +kernel
theorem dX5_init_54 : decode cX5_init 54 = .ok (.bipush 12, 2) := by decide +kernel
theorem dX5_init_56 : decode cX5_init 56 = .ok (.newarray .int, 2) := by decide +kernel
theorem dX5_init_58 : decode cX5_init 58 = .ok (.putfield 40, 3) := by decide +kernel
theorem dX5_init_61 : decode cX5_init 61 = .ok (.aload_n 0, 1) := by decide +kernel
theorem dX5_init_62 : decode cX5_init 62 = .ok (.iconst 4, 1) := by decide +kernel
theorem dX5_init_63 : decode cX5_init 63 = .ok (.newarray .int, 2) := by decide +kernel
theorem dX5_init_65 : decode cX5_init 65 = .ok (.putfield 43, 3) := by decide +kernel
theorem dX5_init_68 : decode cX5_init 68 = .ok (.return_, 1) := by decide +kernel
theorem dX5_readStore_0 : decode cX5_readStore 0 = .ok (.aload_n 0, 1) := by decide +kernel
theorem dX5_readStore_1 : decode cX5_readStore 1 = .ok (.iconst 0, 1) := by decide +kernel
theorem dX5_readStore_2 : decode cX5_readStore 2 = .ok (.putfield 46, 3) := by decide +kernel
theorem dX5_readStore_5 : decode cX5_readStore 5 = .ok (.aload_n 0, 1) := by decide +kernel
theorem dX5_readStore_6 : decode cX5_readStore 6 = .ok (.bipush (-2), 2) := by decide +kernel
theorem dX5_readStore_8 : decode cX5_readStore 8 = .ok (.putfield 50, 3) := by decide +kernel
theorem dX5_readStore_11 : decode cX5_readStore 11 = .ok (.aload_n 0, 1) := by decide +kernel
theorem dX5_readStore_12 : decode cX5_readStore 12 = .ok (.iconst 0, 1) := by decide +kernel
theorem dX5_readStore_13 : decode cX5_readStore 13 = .ok (.putfield 53, 3) := by decide +kernel
theorem dX5_readStore_16 : decode cX5_readStore 16 = .ok (.aload_n 0, 1) := by decide +kernel
theorem dX5_readStore_17 : decode cX5_readStore 17 = .ok (.iconst 0, 1) := by decide +kernel
theorem dX5_readStore_18 : decode cX5_readStore 18 = .ok (.putfield 56, 3) := by decide +kernel
theorem dX5_readStore_21 : decode cX5_readStore 21 = .ok (.aload_n 0, 1) := by decide +kernel
theorem dX5_readStore_22 : decode cX5_readStore 22 = .ok (.getfield 12, 3) := by decide +kernel
theorem dX5_readStore_25 : decode cX5_readStore 25 = .ok (.iconst 0, 1) := by decide +kernel
theorem dX5_readStore_26 : decode cX5_readStore 26 = .ok (.iconst 0, 1) := by decide +kernel
theorem dX5_readStore_27 : decode cX5_readStore 27 = .ok (.iconst 0, 1) := by decide +kernel
theorem dX5_readStore_28 : decode cX5_readStore 28 = .ok (.iconst 0, 1) := by decide +kernel
theorem dX5_readStore_29 : decode cX5_readStore 29 = .ok (.invokevirtual 59, 3) := by decide +kernel
theorem dX5_readStore_32 : decode cX5_readStore 32 = .ok (.aload_n 0, 1) := by decide +kernel
theorem dX5_readStore_33 : decode cX5_readStore 33 = .ok (.getfield 21, 3) := by decide +kernel
theorem dX5_readStore_36 : decode cX5_readStore 36 = .ok (.invokevirtual 63, 3) := by decide +kernel
theorem dX5_readStore_39 : decode cX5_readStore 39 = .ok (.aload_n 0, 1) := by decide +kernel
theorem dX5_readStore_40 : decode cX5_readStore 40 = .ok (.getfield 28, 3) := by decide +kernel
theorem dX5_readStore_43 : decode cX5_readStore 43 = .ok (.iload_n 1, 1) := by decide +kernel
theorem dX5_readStore_44 : decode cX5_readStore 44 = .ok (.invokevirtual 65, 3) := by decide +kernel
theorem dX5_readStore_47 : decode cX5_readStore 47 = .ok (.iconst 0, 1) := by decide +kernel
theorem dX5_readStore_48 : decode cX5_readStore 48 = .ok (.istore_n 2, 1) := by decide +kernel
theorem dX5_readStore_49 : decode cX5_readStore 49 = .ok (.iload_n 2, 1) := by decide +kernel
theorem dX5_readStore_50 : decode cX5_readStore 50 = .ok (.iload_n 1, 1) := by decide +kernel
theorem dX5_readStore_51 : decode cX5_readStore 51 = .ok (.if_icmp .gt 55, 3) := by decide +kernel
theorem dX5_readStore_54 : decode cX5_readStore 54 = .ok (.aload_n 0, 1) := by decide +kernel
theorem dX5_readStore_55 : decode cX5_readStore 55 = .ok (.invokevirtual 69, 3) := by decide +kernel
theorem dX5_readStore_58 : decode cX5_readStore 58 = .ok (.ifCond .ne 5, 3) := by decide +kernel
theorem dX5_readStore_61 : decode cX5_readStore 61 = .ok (.iconst 0, 1) := by decide +kernel
theorem dX5_readStore_62 : decode cX5_readStore 62 = .ok (.ireturn, 1) := by decide +kernel
theorem dX5_readStore_63 : decode cX5_readStore 63 = .ok (.aload_n 0, 1) := by decide +kernel
theorem dX5_readStore_64 : decode cX5_readStore 64 = .ok (.invokevirtual 73, 3) := by decide +kernel
theorem dX5_readStore_67 : decode cX5_readStore 67 = .ok (.ifCond .ne 10, 3) := by decide +kernel
theorem dX5_readStore_70 : decode cX5_readStore 70 = .ok (.aload_n 0, 1) := by decide +kernel
theorem dX5_readStore_71 : decode cX5_readStore 71 = .ok (.bipush 8, 2) := by decide +kernel
theorem dX5_readStore_73 : decode cX5_readStore 73 = .ok (.invokevirtual 76, 3) := by decide +kernel
theorem dX5_readStore_76 : decode cX5_readStore 76 = .ok (.ireturn, 1) := by decide +kernel
theorem dX5_readStore_77 : decode cX5_readStore 77 = .ok (.aload_n 0, 1) := by decide +kernel
theorem dX5_readStore_78 : decode cX5_readStore 78 = .ok (.getfield 28, 3) := by decide +kernel
theorem dX5_readStore_81 : decode cX5_readStore 81 = .ok (.getfield 80, 3) := by decide +kernel
theorem dX5_readStore_84 : decode cX5_readStore 84 = .ok (.ifCond .ne 9, 3) := by decide +kernel
theorem dX5_readStore_87 : decode cX5_readStore 87 = .ok (.aload_n 0, 1) := by decide +kernel
theorem dX5_readStore_88 : decode cX5_readStore 88 = .ok (.invokevirtual 83, 3) := by decide +kernel
theorem dX5_readStore_91 : decode cX5_readStore 91 = .ok (.iconst 1, 1) := by decide +kernel
theorem dX5_readStore_92 : decode cX5_readStore 92 = .ok (.ireturn, 1) := by decide +kernel
theorem dX5_readStore_93 : decode cX5_readStore 93 = .ok (.aload_n 0, 1) := by decide +kernel
theorem dX5_readStore_94 : decode cX5_readStore 94 = .ok (.getfield 28, 3) := by decide +kernel
theorem dX5_readStore_97 : decode cX5_readStore 97 = .ok (.invokevirtual 86, 3) := by decide +kernel
theorem dX5_readStore_100 : decode cX5_readStore 100 = .ok (.iinc 2 1, 3) := by decide +kernel
theorem dX5_readStore_103 : decode cX5_readStore 103 = .ok (.goto (-54), 3) := by decide +kernel
theorem dX5_readStore_106 : decode cX5_readStore 106 = .ok (.aload_n 0, 1) := by decide +kernel
theorem dX5_readStore_107 : decode cX5_readStore 107 = .ok (.iconst 1, 1) := by decide +kernel
theorem dX5_readStore_108 : decode cX5_readStore 108 = .ok (.invokevirtual 76, 3) := by decide +kernel
theorem dX5_readStore_111 : decode cX5_readStore 111 = .ok (.ireturn, 1) := by decide +kernel
theorem dX5_fail_0 : decode cX5_fail 0 = .ok (.aload_n 0, 1) := by decide +kernel
theorem dX5_fail_1 : decode cX5_fail 1 = .ok (.iload_n 1, 1) := by decide +kernel
theorem dX5_fail_2 : decode cX5_fail 2 = .ok (.putfield 46, 3) := by decide +kernel
theorem dX5_fail_5 : decode cX5_fail 5 = .ok (.aload_n 0, 1) := by decide +kernel
theorem dX5_fail_6 : decode cX5_fail 6 = .ok (.aload_n 0, 1) := by decide +kernel
theorem dX5_fail_7 : decode cX5_fail 7 = .ok (.getfield 28, 3) := by decide +kernel
theorem dX5_fail_10 : decode cX5_fail 10 = .ok (.getfield 89, 3) := by decide +kernel
theorem dX5_fail_13 : decode cX5_fail 13 = .ok (.putfield 50, 3) := by decide +kernel
theorem dX5_fail_16 : decode cX5_fail 16 = .ok (.iconst 0, 1) := by decide +kernel
theorem dX5_fail_17 : decode cX5_fail 17 = .ok (.ireturn, 1) := by decide +kernel
theorem dX5_isStored_0 : decode cX5_isStored 0 = .ok (.aload_n 0, 1) := by decide +kernel
theorem dX5_isStored_1 : decode cX5_isStored 1 = .ok (.getfield 12, 3) := by decide +kernel
theorem dX5_isStored_4 : decode cX5_isStored 4 = .ok (.getfield 92, 3) := by decide +kernel
theorem dX5_isStored_7 : decode cX5_isStored 7 = .ok (.ifCond .eq 7, 3) := by decide +kernel
theorem dX5_isStored_10 : decode cX5_isStored 10 = .ok (.iconst 1, 1) := by decide +kernel
theorem dX5_isStored_11 : decode cX5_isStored 11 = .ok (.goto 4, 3) := by decide +kernel
theorem dX5_isStored_14 : decode cX5_isStored 14 = .ok (.iconst 0, 1) := by decide +kernel
theorem dX5_isStored_15 : decode cX5_isStored 15 = .ok (.ireturn, 1) := by decide +kernel
theorem dX5_tellUnsure_0 : decode cX5_tellUnsure 0 = .ok (.iconst 0, 1) := by decide +kernel
theorem dX5_tellUnsure_1 : decode cX5_tellUnsure 1 = .ok (.istore_n 1, 1) := by decide +kernel
theorem dX5_tellUnsure_2 : decode cX5_tellUnsure 2 = .ok (.iload_n 1, 1) := by decide +kernel
theorem dX5_tellUnsure_3 : decode cX5_tellUnsure 3 = .ok (.aload_n 0, 1) := by decide +kernel
theorem dX5_tellUnsure_4 : decode cX5_tellUnsure 4 = .ok (.getfield 56, 3) := by decide +kernel
theorem dX5_tellUnsure_7 : decode cX5_tellUnsure 7 = .ok (.if_icmp .ge 31, 3) := by decide +kernel
theorem dX5_tellUnsure_10 : decode cX5_tellUnsure 10 = .ok (.iload_n 1, 1) := by decide +kernel
theorem dX5_tellUnsure_11 : decode cX5_tellUnsure 11 = .ok (.iconst 4, 1) := by decide +kernel
theorem dX5_tellUnsure_12 : decode cX5_tellUnsure 12 = .ok (.if_icmp .ge 26, 3) := by decide +kernel
theorem dX5_tellUnsure_15 : decode cX5_tellUnsure 15 = .ok (.aload_n 0, 1) := by decide +kernel
theorem dX5_tellUnsure_16 : decode cX5_tellUnsure 16 = .ok (.getfield 21, 3) := by decide +kernel
theorem dX5_tellUnsure_19 : decode cX5_tellUnsure 19 = .ok (.aload_n 0, 1) := by decide +kernel
theorem dX5_tellUnsure_20 : decode cX5_tellUnsure 20 = .ok (.aload_n 0, 1) := by decide +kernel
theorem dX5_tellUnsure_21 : decode cX5_tellUnsure 21 = .ok (.getfield 43, 3) := by decide +kernel
theorem dX5_tellUnsure_24 : decode cX5_tellUnsure 24 = .ok (.iload_n 1, 1) := by decide +kernel
theorem dX5_tellUnsure_25 : decode cX5_tellUnsure 25 = .ok (.iaload, 1) := by decide +kernel
theorem dX5_tellUnsure_26 : decode cX5_tellUnsure 26 = .ok (.invokevirtual 95, 3) := by decide +kernel
theorem dX5_tellUnsure_29 : decode cX5_tellUnsure 29 = .ok (.invokevirtual 99, 3) := by decide +kernel
theorem dX5_tellUnsure_32 : decode cX5_tellUnsure 32 = .ok (.iinc 1 1, 3) := by decide +kernel
theorem dX5_tellUnsure_35 : decode cX5_tellUnsure 35 = .ok (.goto (-33), 3) := by decide +kernel
theorem dX5_tellUnsure_38 : decode cX5_tellUnsure 38 = .ok (.return_, 1) := by decide +kernel
theorem dX5_flipOf_0 : decode cX5_flipOf 0 = .ok (.aload_n 0, 1) := by decide +kernel
theorem dX5_flipOf_1 : decode cX5_flipOf 1 = .ok (.iload_n 1, 1) := by decide +kernel
theorem dX5_flipOf_2 : decode cX5_flipOf 2 = .ok (.invokevirtual 103, 3) := by decide +kernel
theorem dX5_flipOf_5 : decode cX5_flipOf 5 = .ok (.istore_n 2, 1) := by decide +kernel
theorem dX5_flipOf_6 : decode cX5_flipOf 6 = .ok (.iload_n 1, 1) := by decide +kernel
theorem dX5_flipOf_7 : decode cX5_flipOf 7 = .ok (.iconst 1, 1) := by decide +kernel
theorem dX5_flipOf_8 : decode cX5_flipOf 8 = .ok (.iadd, 1) := by decide +kernel
theorem dX5_flipOf_9 : decode cX5_flipOf 9 = .ok (.istore_n 3, 1) := by decide +kernel
theorem dX5_flipOf_10 : decode cX5_flipOf 10 = .ok (.iload_n 3, 1) := by decide +kernel
theorem dX5_flipOf_11 : decode cX5_flipOf 11 = .ok (.aload_n 0, 1) := by decide +kernel
theorem dX5_flipOf_12 : decode cX5_flipOf 12 = .ok (.getfield 53, 3) := by decide +kernel
theorem dX5_flipOf_15 : decode cX5_flipOf 15 = .ok (.if_icmp .ge 20, 3) := by decide +kernel
theorem dX5_flipOf_18 : decode cX5_flipOf 18 = .ok (.aload_n 0, 1) := by decide +kernel
theorem dX5_flipOf_19 : decode cX5_flipOf 19 = .ok (.iload_n 3, 1) := by decide +kernel
theorem dX5_flipOf_20 : decode cX5_flipOf 20 = .ok (.invokevirtual 103, 3) := by decide +kernel
theorem dX5_flipOf_23 : decode cX5_flipOf 23 = .ok (.iload_n 2, 1) := by decide +kernel
theorem dX5_flipOf_24 : decode cX5_flipOf 24 = .ok (.if_icmp .ne 5, 3) := by decide +kernel
theorem dX5_flipOf_27 : decode cX5_flipOf 27 = .ok (.lconst 0, 1) := by decide +kernel
theorem dX5_flipOf_28 : decode cX5_flipOf 28 = .ok (.lreturn, 1) := by decide +kernel
theorem dX5_flipOf_29 : decode cX5_flipOf 29 = .ok (.iinc 3 1, 3) := by decide +kernel
theorem dX5_flipOf_32 : decode cX5_flipOf 32 = .ok (.goto (-22), 3) := by decide +kernel
theorem dX5_flipOf_35 : decode cX5_flipOf 35 = .ok (.iload_n 2, 1) := by decide +kernel
theorem dX5_flipOf_36 : decode cX5_flipOf 36 = .ok (.invokestatic 107, 3) := by decide +kernel
theorem dX5_flipOf_39 : decode cX5_flipOf 39 = .ok (.lreturn, 1) := by decide +kernel
theorem dX5_stampNamed_0 : decode cX5_stampNamed 0 = .ok (.iload_n 1, 1) := by decide +kernel
theorem dX5_stampNamed_1 : decode cX5_stampNamed 1 = .ok (.ifCond .lt 18, 3) := by decide +kernel
theorem dX5_stampNamed_4 : decode cX5_stampNamed 4 = .ok (.iload_n 1, 1) := by decide +kernel
theorem dX5_stampNamed_5 : decode cX5_stampNamed 5 = .ok (.bipush 12, 2) := by decide +kernel
theorem dX5_stampNamed_7 : decode cX5_stampNamed 7 = .ok (.if_icmp .ge 12, 3) := by decide +kernel
theorem dX5_stampNamed_10 : decode cX5_stampNamed 10 = .ok (.aload_n 0, 1) := by decide +kernel
theorem dX5_stampNamed_11 : decode cX5_stampNamed 11 = .ok (.getfield 36, 3) := by decide +kernel
theorem dX5_stampNamed_14 : decode cX5_stampNamed 14 = .ok (.iload_n 1, 1) := by decide +kernel
theorem dX5_stampNamed_15 : decode cX5_stampNamed 15 = .ok (.iaload, 1) := by decide +kernel
theorem dX5_stampNamed_16 : decode cX5_stampNamed 16 = .ok (.goto 5, 3) := by decide +kernel
theorem dX5_stampNamed_19 : decode cX5_stampNamed 19 = .ok (.bipush (-2), 2) := by decide +kernel
theorem dX5_stampNamed_21 : decode cX5_stampNamed 21 = .ok (.ireturn, 1) := by decide +kernel
theorem dX5_slotNamed_0 : decode cX5_slotNamed 0 = .ok (.iload_n 1, 1) := by decide +kernel
theorem dX5_slotNamed_1 : decode cX5_slotNamed 1 = .ok (.ifCond .lt 18, 3) := by decide +kernel
theorem dX5_slotNamed_4 : decode cX5_slotNamed 4 = .ok (.iload_n 1, 1) := by decide +kernel
theorem dX5_slotNamed_5 : decode cX5_slotNamed 5 = .ok (.bipush 12, 2) := by decide +kernel
theorem dX5_slotNamed_7 : decode cX5_slotNamed 7 = .ok (.if_icmp .ge 12, 3) := by decide +kernel
theorem dX5_slotNamed_10 : decode cX5_slotNamed 10 = .ok (.aload_n 0, 1) := by decide +kernel
theorem dX5_slotNamed_11 : decode cX5_slotNamed 11 = .ok (.getfield 40, 3) := by decide +kernel
theorem dX5_slotNamed_14 : decode cX5_slotNamed 14 = .ok (.iload_n 1, 1) := by decide +kernel
theorem dX5_slotNamed_15 : decode cX5_slotNamed 15 = .ok (.iaload, 1) := by decide +kernel
theorem dX5_slotNamed_16 : decode cX5_slotNamed 16 = .ok (.goto 5, 3) := by decide +kernel
theorem dX5_slotNamed_19 : decode cX5_slotNamed 19 = .ok (.bipush (-2), 2) := by decide +kernel
theorem dX5_slotNamed_21 : decode cX5_slotNamed 21 = .ok (.ireturn, 1) := by decide +kernel
theorem dX5_readLine_0 : decode cX5_readLine 0 = .ok (.aload_n 0, 1) := by decide +kernel
theorem dX5_readLine_1 : decode cX5_readLine 1 = .ok (.aload_n 0, 1) := by decide +kernel
theorem dX5_readLine_2 : decode cX5_readLine 2 = .ok (.getfield 28, 3) := by decide +kernel
theorem dX5_readLine_5 : decode cX5_readLine 5 = .ok (.invokevirtual 110, 3) := by decide +kernel
theorem dX5_readLine_8 : decode cX5_readLine 8 = .ok (.putfield 114, 3) := by decide +kernel
theorem dX5_readLine_11 : decode cX5_readLine 11 = .ok (.aload_n 0, 1) := by decide +kernel
theorem dX5_readLine_12 : decode cX5_readLine 12 = .ok (.getfield 114, 3) := by decide +kernel
theorem dX5_readLine_15 : decode cX5_readLine 15 = .ok (.ifnull 13, 3) := by decide +kernel
theorem dX5_readLine_18 : decode cX5_readLine 18 = .ok (.aload_n 0, 1) := by decide +kernel
theorem dX5_readLine_19 : decode cX5_readLine 19 = .ok (.getfield 114, 3) := by decide +kernel
theorem dX5_readLine_22 : decode cX5_readLine 22 = .ok (.getstatic 118, 3) := by decide +kernel
theorem dX5_readLine_25 : decode cX5_readLine 25 = .ok (.if_acmp .ne 9, 3) := by decide +kernel
theorem dX5_readLine_28 : decode cX5_readLine 28 = .ok (.aload_n 0, 1) := by decide +kernel
theorem dX5_readLine_29 : decode cX5_readLine 29 = .ok (.iconst 1, 1) := by decide +kernel
theorem dX5_readLine_30 : decode cX5_readLine 30 = .ok (.invokevirtual 76, 3) := by decide +kernel
theorem dX5_readLine_33 : decode cX5_readLine 33 = .ok (.ireturn, 1) := by decide +kernel
theorem dX5_readLine_34 : decode cX5_readLine 34 = .ok (.aload_n 0, 1) := by decide +kernel
theorem dX5_readLine_35 : decode cX5_readLine 35 = .ok (.getfield 114, 3) := by decide +kernel
theorem dX5_readLine_38 : decode cX5_readLine 38 = .ok (.getstatic 123, 3) := by decide +kernel
theorem dX5_readLine_41 : decode cX5_readLine 41 = .ok (.if_acmp .ne 23, 3) := by decide +kernel
theorem dX5_readLine_44 : decode cX5_readLine 44 = .ok (.aload_n 0, 1) := by decide +kernel
theorem dX5_readLine_45 : decode cX5_readLine 45 = .ok (.invokevirtual 126, 3) := by decide +kernel
theorem dX5_readLine_48 : decode cX5_readLine 48 = .ok (.ifCond .eq 11, 3) := by decide +kernel
theorem dX5_readLine_51 : decode cX5_readLine 51 = .ok (.aload_n 0, 1) := by decide +kernel
theorem dX5_readLine_52 : decode cX5_readLine 52 = .ok (.iconst 3, 1) := by decide +kernel
theorem dX5_readLine_53 : decode cX5_readLine 53 = .ok (.invokevirtual 76, 3) := by decide +kernel
theorem dX5_readLine_56 : decode cX5_readLine 56 = .ok (.goto 7, 3) := by decide +kernel
theorem dX5_readLine_59 : decode cX5_readLine 59 = .ok (.aload_n 0, 1) := by decide +kernel
theorem dX5_readLine_60 : decode cX5_readLine 60 = .ok (.invokevirtual 129, 3) := by decide +kernel
theorem dX5_readLine_63 : decode cX5_readLine 63 = .ok (.ireturn, 1) := by decide +kernel
theorem dX5_readLine_64 : decode cX5_readLine 64 = .ok (.aload_n 0, 1) := by decide +kernel
theorem dX5_readLine_65 : decode cX5_readLine 65 = .ok (.invokevirtual 126, 3) := by decide +kernel
theorem dX5_readLine_68 : decode cX5_readLine 68 = .ok (.ifCond .ne 10, 3) := by decide +kernel
theorem dX5_readLine_71 : decode cX5_readLine 71 = .ok (.aload_n 0, 1) := by decide +kernel
theorem dX5_readLine_72 : decode cX5_readLine 72 = .ok (.bipush 6, 2) := by decide +kernel
theorem dX5_readLine_74 : decode cX5_readLine 74 = .ok (.invokevirtual 76, 3) := by decide +kernel
theorem dX5_readLine_77 : decode cX5_readLine 77 = .ok (.ireturn, 1) := by decide +kernel
theorem dX5_readLine_78 : decode cX5_readLine 78 = .ok (.getstatic 132, 3) := by decide +kernel
theorem dX5_readLine_81 : decode cX5_readLine 81 = .ok (.aload_n 0, 1) := by decide +kernel
theorem dX5_readLine_82 : decode cX5_readLine 82 = .ok (.getfield 114, 3) := by decide +kernel
theorem dX5_readLine_85 : decode cX5_readLine 85 = .ok (.invokevirtual 137, 3) := by decide +kernel
theorem dX5_readLine_88 : decode cX5_readLine 88 = .ok (.iaload, 1) := by decide +kernel
theorem dX5_readLine_89 : decode cX5_readLine 89 = .ok (.tableswitch 143 1 7 #[43, 48, 86, 113, 113, 133, 138], 43) := by decide +kernel
theorem dX5_readLine_132 : decode cX5_readLine 132 = .ok (.aload_n 0, 1) := by decide +kernel
theorem dX5_readLine_133 : decode cX5_readLine 133 = .ok (.invokevirtual 141, 3) := by decide +kernel
theorem dX5_readLine_136 : decode cX5_readLine 136 = .ok (.ireturn, 1) := by decide +kernel
theorem dX5_readLine_137 : decode cX5_readLine 137 = .ok (.aload_n 0, 1) := by decide +kernel
theorem dX5_readLine_138 : decode cX5_readLine 138 = .ok (.invokevirtual 144, 3) := by decide +kernel
theorem dX5_readLine_141 : decode cX5_readLine 141 = .ok (.ifCond .eq 32, 3) := by decide +kernel
theorem dX5_readLine_144 : decode cX5_readLine 144 = .ok (.aload_n 0, 1) := by decide +kernel
theorem dX5_readLine_145 : decode cX5_readLine 145 = .ok (.invokevirtual 147, 3) := by decide +kernel
theorem dX5_readLine_148 : decode cX5_readLine 148 = .ok (.ifCond .eq 25, 3) := by decide +kernel
theorem dX5_readLine_151 : decode cX5_readLine 151 = .ok (.aload_n 0, 1) := by decide +kernel
theorem dX5_readLine_152 : decode cX5_readLine 152 = .ok (.iconst 0, 1) := by decide +kernel
theorem dX5_readLine_153 : decode cX5_readLine 153 = .ok (.sipush 999, 3) := by decide +kernel
theorem dX5_readLine_156 : decode cX5_readLine 156 = .ok (.invokevirtual 150, 3) := by decide +kernel
theorem dX5_readLine_159 : decode cX5_readLine 159 = .ok (.ifCond .eq 14, 3) := by decide +kernel
theorem dX5_readLine_162 : decode cX5_readLine 162 = .ok (.aload_n 0, 1) := by decide +kernel
theorem dX5_readLine_163 : decode cX5_readLine 163 = .ok (.invokevirtual 154, 3) := by decide +kernel
theorem dX5_readLine_166 : decode cX5_readLine 166 = .ok (.ifCond .eq 7, 3) := by decide +kernel
theorem dX5_readLine_169 : decode cX5_readLine 169 = .ok (.iconst 1, 1) := by decide +kernel
theorem dX5_readLine_170 : decode cX5_readLine 170 = .ok (.goto 4, 3) := by decide +kernel
theorem dX5_readLine_173 : decode cX5_readLine 173 = .ok (.iconst 0, 1) := by decide +kernel
theorem dX5_readLine_174 : decode cX5_readLine 174 = .ok (.ireturn, 1) := by decide +kernel
theorem dX5_readLine_175 : decode cX5_readLine 175 = .ok (.aload_n 0, 1) := by decide +kernel
theorem dX5_readLine_176 : decode cX5_readLine 176 = .ok (.invokevirtual 144, 3) := by decide +kernel
theorem dX5_readLine_179 : decode cX5_readLine 179 = .ok (.ifCond .eq 21, 3) := by decide +kernel
theorem dX5_readLine_182 : decode cX5_readLine 182 = .ok (.aload_n 0, 1) := by decide +kernel
theorem dX5_readLine_183 : decode cX5_readLine 183 = .ok (.invokevirtual 147, 3) := by decide +kernel
theorem dX5_readLine_186 : decode cX5_readLine 186 = .ok (.ifCond .eq 14, 3) := by decide +kernel
theorem dX5_readLine_189 : decode cX5_readLine 189 = .ok (.aload_n 0, 1) := by decide +kernel
theorem dX5_readLine_190 : decode cX5_readLine 190 = .ok (.invokevirtual 154, 3) := by decide +kernel
theorem dX5_readLine_193 : decode cX5_readLine 193 = .ok (.ifCond .eq 7, 3) := by decide +kernel
theorem dX5_readLine_196 : decode cX5_readLine 196 = .ok (.iconst 1, 1) := by decide +kernel
theorem dX5_readLine_197 : decode cX5_readLine 197 = .ok (.goto 4, 3) := by decide +kernel
theorem dX5_readLine_200 : decode cX5_readLine 200 = .ok (.iconst 0, 1) := by decide +kernel
theorem dX5_readLine_201 : decode cX5_readLine 201 = .ok (.ireturn, 1) := by decide +kernel
theorem dX5_readLine_202 : decode cX5_readLine 202 = .ok (.aload_n 0, 1) := by decide +kernel
theorem dX5_readLine_203 : decode cX5_readLine 203 = .ok (.invokevirtual 144, 3) := by decide +kernel
theorem dX5_readLine_206 : decode cX5_readLine 206 = .ok (.ifCond .eq 14, 3) := by decide +kernel
theorem dX5_readLine_209 : decode cX5_readLine 209 = .ok (.aload_n 0, 1) := by decide +kernel
theorem dX5_readLine_210 : decode cX5_readLine 210 = .ok (.invokevirtual 154, 3) := by decide +kernel
theorem dX5_readLine_213 : decode cX5_readLine 213 = .ok (.ifCond .eq 7, 3) := by decide +kernel
theorem dX5_readLine_216 : decode cX5_readLine 216 = .ok (.iconst 1, 1) := by decide +kernel
theorem dX5_readLine_217 : decode cX5_readLine 217 = .ok (.goto 4, 3) := by decide +kernel
theorem dX5_readLine_220 : decode cX5_readLine 220 = .ok (.iconst 0, 1) := by decide +kernel
theorem dX5_readLine_221 : decode cX5_readLine 221 = .ok (.ireturn, 1) := by decide +kernel
theorem dX5_readLine_222 : decode cX5_readLine 222 = .ok (.aload_n 0, 1) := by decide +kernel
theorem dX5_readLine_223 : decode cX5_readLine 223 = .ok (.invokevirtual 157, 3) := by decide +kernel
theorem dX5_readLine_226 : decode cX5_readLine 226 = .ok (.ireturn, 1) := by decide +kernel
theorem dX5_readLine_227 : decode cX5_readLine 227 = .ok (.aload_n 0, 1) := by decide +kernel
theorem dX5_readLine_228 : decode cX5_readLine 228 = .ok (.invokevirtual 160, 3) := by decide +kernel
theorem dX5_readLine_231 : decode cX5_readLine 231 = .ok (.ireturn, 1) := by decide +kernel
theorem dX5_readLine_232 : decode cX5_readLine 232 = .ok (.aload_n 0, 1) := by decide +kernel
theorem dX5_readLine_233 : decode cX5_readLine 233 = .ok (.invokevirtual 154, 3) := by decide +kernel
theorem dX5_readLine_236 : decode cX5_readLine 236 = .ok (.ireturn, 1) := by decide +kernel
theorem dX5_readHead_0 : decode cX5_readHead 0 = .ok (.aload_n 0, 1) := by decide +kernel
theorem dX5_readHead_1 : decode cX5_readHead 1 = .ok (.ldc 163, 2) := by decide +kernel
theorem dX5_readHead_3 : decode cX5_readHead 3 = .ok (.invokevirtual 164, 3) := by decide +kernel
theorem dX5_readHead_6 : decode cX5_readHead 6 = .ok (.ifCond .eq 14, 3) := by decide +kernel
theorem dX5_readHead_9 : decode cX5_readHead 9 = .ok (.aload_n 0, 1) := by decide +kernel
theorem dX5_readHead_10 : decode cX5_readHead 10 = .ok (.bipush 8, 2) := by decide +kernel
theorem dX5_readHead_12 : decode cX5_readHead 12 = .ok (.bipush 64, 2) := by decide +kernel
theorem dX5_readHead_14 : decode cX5_readHead 14 = .ok (.invokevirtual 150, 3) := by decide +kernel
theorem dX5_readHead_17 : decode cX5_readHead 17 = .ok (.ifCond .ne 5, 3) := by decide +kernel
theorem dX5_readHead_20 : decode cX5_readHead 20 = .ok (.iconst 0, 1) := by decide +kernel
theorem dX5_readHead_21 : decode cX5_readHead 21 = .ok (.ireturn, 1) := by decide +kernel
theorem dX5_readHead_22 : decode cX5_readHead 22 = .ok (.aload_n 0, 1) := by decide +kernel
theorem dX5_readHead_23 : decode cX5_readHead 23 = .ok (.getfield 168, 3) := by decide +kernel
theorem dX5_readHead_26 : decode cX5_readHead 26 = .ok (.istore_n 1, 1) := by decide +kernel
theorem dX5_readHead_27 : decode cX5_readHead 27 = .ok (.iload_n 1, 1) := by decide +kernel
theorem dX5_readHead_28 : decode cX5_readHead 28 = .ok (.iconst 2, 1) := by decide +kernel
theorem dX5_readHead_29 : decode cX5_readHead 29 = .ok (.irem, 1) := by decide +kernel
theorem dX5_readHead_30 : decode cX5_readHead 30 = .ok (.ifCond .eq 9, 3) := by decide +kernel
theorem dX5_readHead_33 : decode cX5_readHead 33 = .ok (.aload_n 0, 1) := by decide +kernel
theorem dX5_readHead_34 : decode cX5_readHead 34 = .ok (.iconst 4, 1) := by decide +kernel
theorem dX5_readHead_35 : decode cX5_readHead 35 = .ok (.invokevirtual 76, 3) := by decide +kernel
theorem dX5_readHead_38 : decode cX5_readHead 38 = .ok (.ireturn, 1) := by decide +kernel
theorem dX5_readHead_39 : decode cX5_readHead 39 = .ok (.aload_n 0, 1) := by decide +kernel
theorem dX5_readHead_40 : decode cX5_readHead 40 = .ok (.ldc 171, 2) := by decide +kernel
theorem dX5_readHead_42 : decode cX5_readHead 42 = .ok (.invokevirtual 164, 3) := by decide +kernel
theorem dX5_readHead_45 : decode cX5_readHead 45 = .ok (.ifCond .eq 13, 3) := by decide +kernel
theorem dX5_readHead_48 : decode cX5_readHead 48 = .ok (.aload_n 0, 1) := by decide +kernel
theorem dX5_readHead_49 : decode cX5_readHead 49 = .ok (.iconst 1, 1) := by decide +kernel
theorem dX5_readHead_50 : decode cX5_readHead 50 = .ok (.bipush 8, 2) := by decide +kernel
theorem dX5_readHead_52 : decode cX5_readHead 52 = .ok (.invokevirtual 150, 3) := by decide +kernel
theorem dX5_readHead_55 : decode cX5_readHead 55 = .ok (.ifCond .ne 5, 3) := by decide +kernel
theorem dX5_readHead_58 : decode cX5_readHead 58 = .ok (.iconst 0, 1) := by decide +kernel
theorem dX5_readHead_59 : decode cX5_readHead 59 = .ok (.ireturn, 1) := by decide +kernel
theorem dX5_readHead_60 : decode cX5_readHead 60 = .ok (.aload_n 0, 1) := by decide +kernel
theorem dX5_readHead_61 : decode cX5_readHead 61 = .ok (.getfield 168, 3) := by decide +kernel
theorem dX5_readHead_64 : decode cX5_readHead 64 = .ok (.istore_n 2, 1) := by decide +kernel
theorem dX5_readHead_65 : decode cX5_readHead 65 = .ok (.aload_n 0, 1) := by decide +kernel
theorem dX5_readHead_66 : decode cX5_readHead 66 = .ok (.ldc 172, 2) := by decide +kernel
theorem dX5_readHead_68 : decode cX5_readHead 68 = .ok (.invokevirtual 164, 3) := by decide +kernel
theorem dX5_readHead_71 : decode cX5_readHead 71 = .ok (.ifCond .eq 14, 3) := by decide +kernel
theorem dX5_readHead_74 : decode cX5_readHead 74 = .ok (.aload_n 0, 1) := by decide +kernel
theorem dX5_readHead_75 : decode cX5_readHead 75 = .ok (.iconst 0, 1) := by decide +kernel
theorem dX5_readHead_76 : decode cX5_readHead 76 = .ok (.iload_n 1, 1) := by decide +kernel
theorem dX5_readHead_77 : decode cX5_readHead 77 = .ok (.iconst 1, 1) := by decide +kernel
theorem dX5_readHead_78 : decode cX5_readHead 78 = .ok (.isub, 1) := by decide +kernel
theorem dX5_readHead_79 : decode cX5_readHead 79 = .ok (.invokevirtual 150, 3) := by decide +kernel
theorem dX5_readHead_82 : decode cX5_readHead 82 = .ok (.ifCond .ne 5, 3) := by decide +kernel
theorem dX5_readHead_85 : decode cX5_readHead 85 = .ok (.iconst 0, 1) := by decide +kernel
theorem dX5_readHead_86 : decode cX5_readHead 86 = .ok (.ireturn, 1) := by decide +kernel
theorem dX5_readHead_87 : decode cX5_readHead 87 = .ok (.aload_n 0, 1) := by decide +kernel
theorem dX5_readHead_88 : decode cX5_readHead 88 = .ok (.getfield 168, 3) := by decide +kernel
theorem dX5_readHead_91 : decode cX5_readHead 91 = .ok (.istore_n 3, 1) := by decide +kernel
theorem dX5_readHead_92 : decode cX5_readHead 92 = .ok (.aload_n 0, 1) := by decide +kernel
theorem dX5_readHead_93 : decode cX5_readHead 93 = .ok (.ldc 173, 2) := by decide +kernel
theorem dX5_readHead_95 : decode cX5_readHead 95 = .ok (.invokevirtual 164, 3) := by decide +kernel
theorem dX5_readHead_98 : decode cX5_readHead 98 = .ok (.ifCond .eq 20, 3) := by decide +kernel
theorem dX5_readHead_101 : decode cX5_readHead 101 = .ok (.aload_n 0, 1) := by decide +kernel
theorem dX5_readHead_102 : decode cX5_readHead 102 = .ok (.iconst 0, 1) := by decide +kernel
theorem dX5_readHead_103 : decode cX5_readHead 103 = .ok (.bipush 100, 2) := by decide +kernel
theorem dX5_readHead_105 : decode cX5_readHead 105 = .ok (.invokevirtual 150, 3) := by decide +kernel
theorem dX5_readHead_108 : decode cX5_readHead 108 = .ok (.ifCond .eq 10, 3) := by decide +kernel
theorem dX5_readHead_111 : decode cX5_readHead 111 = .ok (.aload_n 0, 1) := by decide +kernel
theorem dX5_readHead_112 : decode cX5_readHead 112 = .ok (.invokevirtual 154, 3) := by decide +kernel
theorem dX5_readHead_115 : decode cX5_readHead 115 = .ok (.ifCond .ne 5, 3) := by decide +kernel
theorem dX5_readHead_118 : decode cX5_readHead 118 = .ok (.iconst 0, 1) := by decide +kernel
theorem dX5_readHead_119 : decode cX5_readHead 119 = .ok (.ireturn, 1) := by decide +kernel
theorem dX5_readHead_120 : decode cX5_readHead 120 = .ok (.aload_n 0, 1) := by decide +kernel
theorem dX5_readHead_121 : decode cX5_readHead 121 = .ok (.getfield 12, 3) := by decide +kernel
theorem dX5_readHead_124 : decode cX5_readHead 124 = .ok (.iload_n 1, 1) := by decide +kernel
theorem dX5_readHead_125 : decode cX5_readHead 125 = .ok (.iload_n 2, 1) := by decide +kernel
theorem dX5_readHead_126 : decode cX5_readHead 126 = .ok (.iload_n 3, 1) := by decide +kernel
theorem dX5_readHead_127 : decode cX5_readHead 127 = .ok (.aload_n 0, 1) := by decide +kernel
theorem dX5_readHead_128 : decode cX5_readHead 128 = .ok (.getfield 168, 3) := by decide +kernel
theorem dX5_readHead_131 : decode cX5_readHead 131 = .ok (.invokevirtual 59, 3) := by decide +kernel
theorem dX5_readHead_134 : decode cX5_readHead 134 = .ok (.iconst 1, 1) := by decide +kernel
theorem dX5_readHead_135 : decode cX5_readHead 135 = .ok (.ireturn, 1) := by decide +kernel
theorem dX5_readBegin_0 : decode cX5_readBegin 0 = .ok (.aload_n 0, 1) := by decide +kernel
theorem dX5_readBegin_1 : decode cX5_readBegin 1 = .ok (.getfield 53, 3) := by decide +kernel
theorem dX5_readBegin_4 : decode cX5_readBegin 4 = .ok (.bipush 12, 2) := by decide +kernel
theorem dX5_readBegin_6 : decode cX5_readBegin 6 = .ok (.if_icmp .lt 9, 3) := by decide +kernel
theorem dX5_readBegin_9 : decode cX5_readBegin 9 = .ok (.aload_n 0, 1) := by decide +kernel
theorem dX5_readBegin_10 : decode cX5_readBegin 10 = .ok (.iconst 5, 1) := by decide +kernel
theorem dX5_readBegin_11 : decode cX5_readBegin 11 = .ok (.invokevirtual 76, 3) := by decide +kernel
theorem dX5_readBegin_14 : decode cX5_readBegin 14 = .ok (.ireturn, 1) := by decide +kernel
theorem dX5_readBegin_15 : decode cX5_readBegin 15 = .ok (.aload_n 0, 1) := by decide +kernel
theorem dX5_readBegin_16 : decode cX5_readBegin 16 = .ok (.invokevirtual 175, 3) := by decide +kernel
theorem dX5_readBegin_19 : decode cX5_readBegin 19 = .ok (.ifCond .ne 5, 3) := by decide +kernel
theorem dX5_readBegin_22 : decode cX5_readBegin 22 = .ok (.iconst 0, 1) := by decide +kernel
theorem dX5_readBegin_23 : decode cX5_readBegin 23 = .ok (.ireturn, 1) := by decide +kernel
theorem dX5_readBegin_24 : decode cX5_readBegin 24 = .ok (.aload_n 0, 1) := by decide +kernel
theorem dX5_readBegin_25 : decode cX5_readBegin 25 = .ok (.getfield 178, 3) := by decide +kernel
theorem dX5_readBegin_28 : decode cX5_readBegin 28 = .ok (.bipush (-2), 2) := by decide +kernel
theorem dX5_readBegin_30 : decode cX5_readBegin 30 = .ok (.if_icmp .eq 9, 3) := by decide +kernel
theorem dX5_readBegin_33 : decode cX5_readBegin 33 = .ok (.aload_n 0, 1) := by decide +kernel
theorem dX5_readBegin_34 : decode cX5_readBegin 34 = .ok (.iconst 3, 1) := by decide +kernel
theorem dX5_readBegin_35 : decode cX5_readBegin 35 = .ok (.invokevirtual 76, 3) := by decide +kernel
theorem dX5_readBegin_38 : decode cX5_readBegin 38 = .ok (.ireturn, 1) := by decide +kernel
theorem dX5_readBegin_39 : decode cX5_readBegin 39 = .ok (.aload_n 0, 1) := by decide +kernel
theorem dX5_readBegin_40 : decode cX5_readBegin 40 = .ok (.getfield 32, 3) := by decide +kernel
theorem dX5_readBegin_43 : decode cX5_readBegin 43 = .ok (.aload_n 0, 1) := by decide +kernel
theorem dX5_readBegin_44 : decode cX5_readBegin 44 = .ok (.getfield 53, 3) := by decide +kernel
theorem dX5_readBegin_47 : decode cX5_readBegin 47 = .ok (.aload_n 0, 1) := by decide +kernel
theorem dX5_readBegin_48 : decode cX5_readBegin 48 = .ok (.getfield 28, 3) := by decide +kernel
theorem dX5_readBegin_51 : decode cX5_readBegin 51 = .ok (.getfield 181, 3) := by decide +kernel
theorem dX5_readBegin_54 : decode cX5_readBegin 54 = .ok (.lastore, 1) := by decide +kernel
theorem dX5_readBegin_55 : decode cX5_readBegin 55 = .ok (.aload_n 0, 1) := by decide +kernel
theorem dX5_readBegin_56 : decode cX5_readBegin 56 = .ok (.invokevirtual 154, 3) := by decide +kernel
theorem dX5_readBegin_59 : decode cX5_readBegin 59 = .ok (.ireturn, 1) := by decide +kernel
theorem dX5_readUnsure_0 : decode cX5_readUnsure 0 = .ok (.aload_n 0, 1) := by decide +kernel
theorem dX5_readUnsure_1 : decode cX5_readUnsure 1 = .ok (.getfield 56, 3) := by decide +kernel
theorem dX5_readUnsure_4 : decode cX5_readUnsure 4 = .ok (.iconst 4, 1) := by decide +kernel
theorem dX5_readUnsure_5 : decode cX5_readUnsure 5 = .ok (.if_icmp .lt 9, 3) := by decide +kernel
theorem dX5_readUnsure_8 : decode cX5_readUnsure 8 = .ok (.aload_n 0, 1) := by decide +kernel
theorem dX5_readUnsure_9 : decode cX5_readUnsure 9 = .ok (.iconst 5, 1) := by decide +kernel
theorem dX5_readUnsure_10 : decode cX5_readUnsure 10 = .ok (.invokevirtual 76, 3) := by decide +kernel
theorem dX5_readUnsure_13 : decode cX5_readUnsure 13 = .ok (.ireturn, 1) := by decide +kernel
theorem dX5_readUnsure_14 : decode cX5_readUnsure 14 = .ok (.aload_n 0, 1) := by decide +kernel
theorem dX5_readUnsure_15 : decode cX5_readUnsure 15 = .ok (.invokevirtual 175, 3) := by decide +kernel
theorem dX5_readUnsure_18 : decode cX5_readUnsure 18 = .ok (.ifCond .ne 5, 3) := by decide +kernel
theorem dX5_readUnsure_21 : decode cX5_readUnsure 21 = .ok (.iconst 0, 1) := by decide +kernel
theorem dX5_readUnsure_22 : decode cX5_readUnsure 22 = .ok (.ireturn, 1) := by decide +kernel
theorem dX5_readUnsure_23 : decode cX5_readUnsure 23 = .ok (.aload_n 0, 1) := by decide +kernel
theorem dX5_readUnsure_24 : decode cX5_readUnsure 24 = .ok (.getfield 178, 3) := by decide +kernel
theorem dX5_readUnsure_27 : decode cX5_readUnsure 27 = .ok (.bipush (-2), 2) := by decide +kernel
theorem dX5_readUnsure_29 : decode cX5_readUnsure 29 = .ok (.if_icmp .ne 9, 3) := by decide +kernel
theorem dX5_readUnsure_32 : decode cX5_readUnsure 32 = .ok (.aload_n 0, 1) := by decide +kernel
theorem dX5_readUnsure_33 : decode cX5_readUnsure 33 = .ok (.iconst 2, 1) := by decide +kernel
theorem dX5_readUnsure_34 : decode cX5_readUnsure 34 = .ok (.invokevirtual 76, 3) := by decide +kernel
theorem dX5_readUnsure_37 : decode cX5_readUnsure 37 = .ok (.ireturn, 1) := by decide +kernel
theorem dX5_readUnsure_38 : decode cX5_readUnsure 38 = .ok (.aload_n 0, 1) := by decide +kernel
theorem dX5_readUnsure_39 : decode cX5_readUnsure 39 = .ok (.aload_n 0, 1) := by decide +kernel
theorem dX5_readUnsure_40 : decode cX5_readUnsure 40 = .ok (.getfield 178, 3) := by decide +kernel
theorem dX5_readUnsure_43 : decode cX5_readUnsure 43 = .ok (.invokevirtual 185, 3) := by decide +kernel
theorem dX5_readUnsure_46 : decode cX5_readUnsure 46 = .ok (.ifCond .eq 9, 3) := by decide +kernel
theorem dX5_readUnsure_49 : decode cX5_readUnsure 49 = .ok (.aload_n 0, 1) := by decide +kernel
theorem dX5_readUnsure_50 : decode cX5_readUnsure 50 = .ok (.iconst 3, 1) := by decide +kernel
theorem dX5_readUnsure_51 : decode cX5_readUnsure 51 = .ok (.invokevirtual 76, 3) := by decide +kernel
theorem dX5_readUnsure_54 : decode cX5_readUnsure 54 = .ok (.ireturn, 1) := by decide +kernel
theorem dX5_readUnsure_55 : decode cX5_readUnsure 55 = .ok (.aload_n 0, 1) := by decide +kernel
theorem dX5_readUnsure_56 : decode cX5_readUnsure 56 = .ok (.aload_n 0, 1) := by decide +kernel
theorem dX5_readUnsure_57 : decode cX5_readUnsure 57 = .ok (.getfield 178, 3) := by decide +kernel
theorem dX5_readUnsure_60 : decode cX5_readUnsure 60 = .ok (.invokevirtual 188, 3) := by decide +kernel
theorem dX5_readUnsure_63 : decode cX5_readUnsure 63 = .ok (.bipush (-2), 2) := by decide +kernel
theorem dX5_readUnsure_65 : decode cX5_readUnsure 65 = .ok (.if_icmp .eq 10, 3) := by decide +kernel
theorem dX5_readUnsure_68 : decode cX5_readUnsure 68 = .ok (.aload_n 0, 1) := by decide +kernel
theorem dX5_readUnsure_69 : decode cX5_readUnsure 69 = .ok (.bipush 7, 2) := by decide +kernel
theorem dX5_readUnsure_71 : decode cX5_readUnsure 71 = .ok (.invokevirtual 76, 3) := by decide +kernel
theorem dX5_readUnsure_74 : decode cX5_readUnsure 74 = .ok (.ireturn, 1) := by decide +kernel
theorem dX5_readUnsure_75 : decode cX5_readUnsure 75 = .ok (.aload_n 0, 1) := by decide +kernel
theorem dX5_readUnsure_76 : decode cX5_readUnsure 76 = .ok (.getfield 43, 3) := by decide +kernel
theorem dX5_readUnsure_79 : decode cX5_readUnsure 79 = .ok (.aload_n 0, 1) := by decide +kernel
theorem dX5_readUnsure_80 : decode cX5_readUnsure 80 = .ok (.getfield 56, 3) := by decide +kernel
theorem dX5_readUnsure_83 : decode cX5_readUnsure 83 = .ok (.aload_n 0, 1) := by decide +kernel
theorem dX5_readUnsure_84 : decode cX5_readUnsure 84 = .ok (.getfield 178, 3) := by decide +kernel
theorem dX5_readUnsure_87 : decode cX5_readUnsure 87 = .ok (.iastore, 1) := by decide +kernel
theorem dX5_readUnsure_88 : decode cX5_readUnsure 88 = .ok (.aload_n 0, 1) := by decide +kernel
theorem dX5_readUnsure_89 : decode cX5_readUnsure 89 = .ok (.dup, 1) := by decide +kernel
theorem dX5_readUnsure_90 : decode cX5_readUnsure 90 = .ok (.getfield 56, 3) := by decide +kernel
theorem dX5_readUnsure_93 : decode cX5_readUnsure 93 = .ok (.iconst 1, 1) := by decide +kernel
theorem dX5_readUnsure_94 : decode cX5_readUnsure 94 = .ok (.iadd, 1) := by decide +kernel
theorem dX5_readUnsure_95 : decode cX5_readUnsure 95 = .ok (.putfield 56, 3) := by decide +kernel
theorem dX5_readUnsure_98 : decode cX5_readUnsure 98 = .ok (.aload_n 0, 1) := by decide +kernel
theorem dX5_readUnsure_99 : decode cX5_readUnsure 99 = .ok (.invokevirtual 154, 3) := by decide +kernel
theorem dX5_readUnsure_102 : decode cX5_readUnsure 102 = .ok (.ireturn, 1) := by decide +kernel
theorem dX5_isUnsure_0 : decode cX5_isUnsure 0 = .ok (.iconst 0, 1) := by decide +kernel
theorem dX5_isUnsure_1 : decode cX5_isUnsure 1 = .ok (.istore_n 2, 1) := by decide +kernel
theorem dX5_isUnsure_2 : decode cX5_isUnsure 2 = .ok (.iload_n 2, 1) := by decide +kernel
theorem dX5_isUnsure_3 : decode cX5_isUnsure 3 = .ok (.aload_n 0, 1) := by decide +kernel
theorem dX5_isUnsure_4 : decode cX5_isUnsure 4 = .ok (.getfield 56, 3) := by decide +kernel
theorem dX5_isUnsure_7 : decode cX5_isUnsure 7 = .ok (.if_icmp .ge 26, 3) := by decide +kernel
theorem dX5_isUnsure_10 : decode cX5_isUnsure 10 = .ok (.iload_n 2, 1) := by decide +kernel
theorem dX5_isUnsure_11 : decode cX5_isUnsure 11 = .ok (.iconst 4, 1) := by decide +kernel
theorem dX5_isUnsure_12 : decode cX5_isUnsure 12 = .ok (.if_icmp .ge 21, 3) := by decide +kernel
theorem dX5_isUnsure_15 : decode cX5_isUnsure 15 = .ok (.aload_n 0, 1) := by decide +kernel
theorem dX5_isUnsure_16 : decode cX5_isUnsure 16 = .ok (.getfield 43, 3) := by decide +kernel
theorem dX5_isUnsure_19 : decode cX5_isUnsure 19 = .ok (.iload_n 2, 1) := by decide +kernel
theorem dX5_isUnsure_20 : decode cX5_isUnsure 20 = .ok (.iaload, 1) := by decide +kernel
theorem dX5_isUnsure_21 : decode cX5_isUnsure 21 = .ok (.iload_n 1, 1) := by decide +kernel
theorem dX5_isUnsure_22 : decode cX5_isUnsure 22 = .ok (.if_icmp .ne 5, 3) := by decide +kernel
theorem dX5_isUnsure_25 : decode cX5_isUnsure 25 = .ok (.iconst 1, 1) := by decide +kernel
theorem dX5_isUnsure_26 : decode cX5_isUnsure 26 = .ok (.ireturn, 1) := by decide +kernel
theorem dX5_isUnsure_27 : decode cX5_isUnsure 27 = .ok (.iinc 2 1, 3) := by decide +kernel
theorem dX5_isUnsure_30 : decode cX5_isUnsure 30 = .ok (.goto (-28), 3) := by decide +kernel
theorem dX5_isUnsure_33 : decode cX5_isUnsure 33 = .ok (.iconst 0, 1) := by decide +kernel
theorem dX5_isUnsure_34 : decode cX5_isUnsure 34 = .ok (.ireturn, 1) := by decide +kernel
theorem dX5_readSeen_0 : decode cX5_readSeen 0 = .ok (.aload_n 0, 1) := by decide +kernel
theorem dX5_readSeen_1 : decode cX5_readSeen 1 = .ok (.invokevirtual 147, 3) := by decide +kernel
theorem dX5_readSeen_4 : decode cX5_readSeen 4 = .ok (.ifCond .ne 5, 3) := by decide +kernel
theorem dX5_readSeen_7 : decode cX5_readSeen 7 = .ok (.iconst 0, 1) := by decide +kernel
theorem dX5_readSeen_8 : decode cX5_readSeen 8 = .ok (.ireturn, 1) := by decide +kernel
theorem dX5_readSeen_9 : decode cX5_readSeen 9 = .ok (.aload_n 0, 1) := by decide +kernel
theorem dX5_readSeen_10 : decode cX5_readSeen 10 = .ok (.getfield 21, 3) := by decide +kernel
theorem dX5_readSeen_13 : decode cX5_readSeen 13 = .ok (.aload_n 0, 1) := by decide +kernel
theorem dX5_readSeen_14 : decode cX5_readSeen 14 = .ok (.getfield 191, 3) := by decide +kernel
theorem dX5_readSeen_17 : decode cX5_readSeen 17 = .ok (.invokevirtual 194, 3) := by decide +kernel
theorem dX5_readSeen_20 : decode cX5_readSeen 20 = .ok (.ifCond .eq 9, 3) := by decide +kernel
theorem dX5_readSeen_23 : decode cX5_readSeen 23 = .ok (.aload_n 0, 1) := by decide +kernel
theorem dX5_readSeen_24 : decode cX5_readSeen 24 = .ok (.iconst 3, 1) := by decide +kernel
theorem dX5_readSeen_25 : decode cX5_readSeen 25 = .ok (.invokevirtual 76, 3) := by decide +kernel
theorem dX5_readSeen_28 : decode cX5_readSeen 28 = .ok (.ireturn, 1) := by decide +kernel
theorem dX5_readSeen_29 : decode cX5_readSeen 29 = .ok (.aload_n 0, 1) := by decide +kernel
theorem dX5_readSeen_30 : decode cX5_readSeen 30 = .ok (.getfield 28, 3) := by decide +kernel
theorem dX5_readSeen_33 : decode cX5_readSeen 33 = .ok (.invokevirtual 86, 3) := by decide +kernel
theorem dX5_readSeen_36 : decode cX5_readSeen 36 = .ok (.aload_n 0, 1) := by decide +kernel
theorem dX5_readSeen_37 : decode cX5_readSeen 37 = .ok (.getfield 28, 3) := by decide +kernel
theorem dX5_readSeen_40 : decode cX5_readSeen 40 = .ok (.invokevirtual 110, 3) := by decide +kernel
theorem dX5_readSeen_43 : decode cX5_readSeen 43 = .ok (.getstatic 118, 3) := by decide +kernel
theorem dX5_readSeen_46 : decode cX5_readSeen 46 = .ok (.if_acmp .ne 19, 3) := by decide +kernel
theorem dX5_readSeen_49 : decode cX5_readSeen 49 = .ok (.aload_n 0, 1) := by decide +kernel
theorem dX5_readSeen_50 : decode cX5_readSeen 50 = .ok (.getfield 21, 3) := by decide +kernel
theorem dX5_readSeen_53 : decode cX5_readSeen 53 = .ok (.aload_n 0, 1) := by decide +kernel
theorem dX5_readSeen_54 : decode cX5_readSeen 54 = .ok (.getfield 191, 3) := by decide +kernel
theorem dX5_readSeen_57 : decode cX5_readSeen 57 = .ok (.bipush (-2), 2) := by decide +kernel
theorem dX5_readSeen_59 : decode cX5_readSeen 59 = .ok (.invokevirtual 197, 3) := by decide +kernel
theorem dX5_readSeen_62 : decode cX5_readSeen 62 = .ok (.goto 42, 3) := by decide +kernel
theorem dX5_readSeen_65 : decode cX5_readSeen 65 = .ok (.aload_n 0, 1) := by decide +kernel
theorem dX5_readSeen_66 : decode cX5_readSeen 66 = .ok (.getfield 28, 3) := by decide +kernel
theorem dX5_readSeen_69 : decode cX5_readSeen 69 = .ok (.getfield 80, 3) := by decide +kernel
theorem dX5_readSeen_72 : decode cX5_readSeen 72 = .ok (.iconst 2, 1) := by decide +kernel
theorem dX5_readSeen_73 : decode cX5_readSeen 73 = .ok (.if_icmp .ne 25, 3) := by decide +kernel
theorem dX5_readSeen_76 : decode cX5_readSeen 76 = .ok (.aload_n 0, 1) := by decide +kernel
theorem dX5_readSeen_77 : decode cX5_readSeen 77 = .ok (.getfield 21, 3) := by decide +kernel
theorem dX5_readSeen_80 : decode cX5_readSeen 80 = .ok (.aload_n 0, 1) := by decide +kernel
theorem dX5_readSeen_81 : decode cX5_readSeen 81 = .ok (.getfield 191, 3) := by decide +kernel
theorem dX5_readSeen_84 : decode cX5_readSeen 84 = .ok (.aload_n 0, 1) := by decide +kernel
theorem dX5_readSeen_85 : decode cX5_readSeen 85 = .ok (.getfield 28, 3) := by decide +kernel
theorem dX5_readSeen_88 : decode cX5_readSeen 88 = .ok (.getfield 181, 3) := by decide +kernel
theorem dX5_readSeen_91 : decode cX5_readSeen 91 = .ok (.l2i, 1) := by decide +kernel
theorem dX5_readSeen_92 : decode cX5_readSeen 92 = .ok (.invokevirtual 197, 3) := by decide +kernel
theorem dX5_readSeen_95 : decode cX5_readSeen 95 = .ok (.goto 9, 3) := by decide +kernel
theorem dX5_readSeen_98 : decode cX5_readSeen 98 = .ok (.aload_n 0, 1) := by decide +kernel
theorem dX5_readSeen_99 : decode cX5_readSeen 99 = .ok (.iconst 1, 1) := by decide +kernel
theorem dX5_readSeen_100 : decode cX5_readSeen 100 = .ok (.invokevirtual 76, 3) := by decide +kernel
theorem dX5_readSeen_103 : decode cX5_readSeen 103 = .ok (.ireturn, 1) := by decide +kernel
theorem dX5_readSeen_104 : decode cX5_readSeen 104 = .ok (.aload_n 0, 1) := by decide +kernel
theorem dX5_readSeen_105 : decode cX5_readSeen 105 = .ok (.invokevirtual 154, 3) := by decide +kernel
theorem dX5_readSeen_108 : decode cX5_readSeen 108 = .ok (.ireturn, 1) := by decide +kernel
theorem dX5_takeText_0 : decode cX5_takeText 0 = .ok (.aload_n 0, 1) := by decide +kernel
theorem dX5_takeText_1 : decode cX5_takeText 1 = .ok (.getfield 28, 3) := by decide +kernel
theorem dX5_takeText_4 : decode cX5_takeText 4 = .ok (.invokevirtual 86, 3) := by decide +kernel
theorem dX5_takeText_7 : decode cX5_takeText 7 = .ok (.aload_n 0, 1) := by decide +kernel
theorem dX5_takeText_8 : decode cX5_takeText 8 = .ok (.getfield 28, 3) := by decide +kernel
theorem dX5_takeText_11 : decode cX5_takeText 11 = .ok (.aload_n 1, 1) := by decide +kernel
theorem dX5_takeText_12 : decode cX5_takeText 12 = .ok (.invokevirtual 201, 3) := by decide +kernel
theorem dX5_takeText_15 : decode cX5_takeText 15 = .ok (.ifCond .ne 11, 3) := by decide +kernel
theorem dX5_takeText_18 : decode cX5_takeText 18 = .ok (.aload_n 0, 1) := by decide +kernel
theorem dX5_takeText_19 : decode cX5_takeText 19 = .ok (.iconst 1, 1) := by decide +kernel
theorem dX5_takeText_20 : decode cX5_takeText 20 = .ok (.invokevirtual 76, 3) := by decide +kernel
theorem dX5_takeText_23 : decode cX5_takeText 23 = .ok (.ifCond .eq 7, 3) := by decide +kernel
theorem dX5_takeText_26 : decode cX5_takeText 26 = .ok (.iconst 1, 1) := by decide +kernel
theorem dX5_takeText_27 : decode cX5_takeText 27 = .ok (.goto 4, 3) := by decide +kernel
theorem dX5_takeText_30 : decode cX5_takeText 30 = .ok (.iconst 0, 1) := by decide +kernel
theorem dX5_takeText_31 : decode cX5_takeText 31 = .ok (.ireturn, 1) := by decide +kernel
theorem dX5_takeWhole_0 : decode cX5_takeWhole 0 = .ok (.aload_n 0, 1) := by decide +kernel
theorem dX5_takeWhole_1 : decode cX5_takeWhole 1 = .ok (.getfield 28, 3) := by decide +kernel
theorem dX5_takeWhole_4 : decode cX5_takeWhole 4 = .ok (.invokevirtual 86, 3) := by decide +kernel
theorem dX5_takeWhole_7 : decode cX5_takeWhole 7 = .ok (.aload_n 0, 1) := by decide +kernel
theorem dX5_takeWhole_8 : decode cX5_takeWhole 8 = .ok (.getfield 28, 3) := by decide +kernel
theorem dX5_takeWhole_11 : decode cX5_takeWhole 11 = .ok (.getfield 80, 3) := by decide +kernel
theorem dX5_takeWhole_14 : decode cX5_takeWhole 14 = .ok (.iconst 2, 1) := by decide +kernel
theorem dX5_takeWhole_15 : decode cX5_takeWhole 15 = .ok (.if_icmp .eq 9, 3) := by decide +kernel
theorem dX5_takeWhole_18 : decode cX5_takeWhole 18 = .ok (.aload_n 0, 1) := by decide +kernel
theorem dX5_takeWhole_19 : decode cX5_takeWhole 19 = .ok (.iconst 1, 1) := by decide +kernel
theorem dX5_takeWhole_20 : decode cX5_takeWhole 20 = .ok (.invokevirtual 76, 3) := by decide +kernel
theorem dX5_takeWhole_23 : decode cX5_takeWhole 23 = .ok (.ireturn, 1) := by decide +kernel
theorem dX5_takeWhole_24 : decode cX5_takeWhole 24 = .ok (.aload_n 0, 1) := by decide +kernel
theorem dX5_takeWhole_25 : decode cX5_takeWhole 25 = .ok (.getfield 28, 3) := by decide +kernel
theorem dX5_takeWhole_28 : decode cX5_takeWhole 28 = .ok (.getfield 181, 3) := by decide +kernel
theorem dX5_takeWhole_31 : decode cX5_takeWhole 31 = .ok (.iload_n 1, 1) := by decide +kernel
theorem dX5_takeWhole_32 : decode cX5_takeWhole 32 = .ok (.i2l, 1) := by decide +kernel
theorem dX5_takeWhole_33 : decode cX5_takeWhole 33 = .ok (.lcmp, 1) := by decide +kernel
theorem dX5_takeWhole_34 : decode cX5_takeWhole 34 = .ok (.ifCond .lt 16, 3) := by decide +kernel
theorem dX5_takeWhole_37 : decode cX5_takeWhole 37 = .ok (.aload_n 0, 1) := by decide +kernel
theorem dX5_takeWhole_38 : decode cX5_takeWhole 38 = .ok (.getfield 28, 3) := by decide +kernel
theorem dX5_takeWhole_41 : decode cX5_takeWhole 41 = .ok (.getfield 181, 3) := by decide +kernel
theorem dX5_takeWhole_44 : decode cX5_takeWhole 44 = .ok (.iload_n 2, 1) := by decide +kernel
theorem dX5_takeWhole_45 : decode cX5_takeWhole 45 = .ok (.i2l, 1) := by decide +kernel
theorem dX5_takeWhole_46 : decode cX5_takeWhole 46 = .ok (.lcmp, 1) := by decide +kernel
theorem dX5_takeWhole_47 : decode cX5_takeWhole 47 = .ok (.ifCond .le 9, 3) := by decide +kernel
theorem dX5_takeWhole_50 : decode cX5_takeWhole 50 = .ok (.aload_n 0, 1) := by decide +kernel
theorem dX5_takeWhole_51 : decode cX5_takeWhole 51 = .ok (.iconst 4, 1) := by decide +kernel
theorem dX5_takeWhole_52 : decode cX5_takeWhole 52 = .ok (.invokevirtual 76, 3) := by decide +kernel
theorem dX5_takeWhole_55 : decode cX5_takeWhole 55 = .ok (.ireturn, 1) := by decide +kernel
theorem dX5_takeWhole_56 : decode cX5_takeWhole 56 = .ok (.aload_n 0, 1) := by decide +kernel
theorem dX5_takeWhole_57 : decode cX5_takeWhole 57 = .ok (.aload_n 0, 1) := by decide +kernel
theorem dX5_takeWhole_58 : decode cX5_takeWhole 58 = .ok (.getfield 28, 3) := by decide +kernel
theorem dX5_takeWhole_61 : decode cX5_takeWhole 61 = .ok (.getfield 181, 3) := by decide +kernel
theorem dX5_takeWhole_64 : decode cX5_takeWhole 64 = .ok (.l2i, 1) := by decide +kernel
theorem dX5_takeWhole_65 : decode cX5_takeWhole 65 = .ok (.putfield 168, 3) := by decide +kernel
theorem dX5_takeWhole_68 : decode cX5_takeWhole 68 = .ok (.iconst 1, 1) := by decide +kernel
theorem dX5_takeWhole_69 : decode cX5_takeWhole 69 = .ok (.ireturn, 1) := by decide +kernel
theorem dX5_takeRow_0 : decode cX5_takeRow 0 = .ok (.aload_n 0, 1) := by decide +kernel
theorem dX5_takeRow_1 : decode cX5_takeRow 1 = .ok (.iconst 0, 1) := by decide +kernel
theorem dX5_takeRow_2 : decode cX5_takeRow 2 = .ok (.aload_n 0, 1) := by decide +kernel
theorem dX5_takeRow_3 : decode cX5_takeRow 3 = .ok (.getfield 12, 3) := by decide +kernel
theorem dX5_takeRow_6 : decode cX5_takeRow 6 = .ok (.getfield 204, 3) := by decide +kernel
theorem dX5_takeRow_9 : decode cX5_takeRow 9 = .ok (.iconst 1, 1) := by decide +kernel
theorem dX5_takeRow_10 : decode cX5_takeRow 10 = .ok (.isub, 1) := by decide +kernel
theorem dX5_takeRow_11 : decode cX5_takeRow 11 = .ok (.invokevirtual 150, 3) := by decide +kernel
theorem dX5_takeRow_14 : decode cX5_takeRow 14 = .ok (.istore_n 1, 1) := by decide +kernel
theorem dX5_takeRow_15 : decode cX5_takeRow 15 = .ok (.aload_n 0, 1) := by decide +kernel
theorem dX5_takeRow_16 : decode cX5_takeRow 16 = .ok (.aload_n 0, 1) := by decide +kernel
theorem dX5_takeRow_17 : decode cX5_takeRow 17 = .ok (.getfield 168, 3) := by decide +kernel
theorem dX5_takeRow_20 : decode cX5_takeRow 20 = .ok (.putfield 191, 3) := by decide +kernel
theorem dX5_takeRow_23 : decode cX5_takeRow 23 = .ok (.iload_n 1, 1) := by decide +kernel
theorem dX5_takeRow_24 : decode cX5_takeRow 24 = .ok (.ireturn, 1) := by decide +kernel
theorem dX5_takeName_0 : decode cX5_takeName 0 = .ok (.aload_n 0, 1) := by decide +kernel
theorem dX5_takeName_1 : decode cX5_takeName 1 = .ok (.getfield 28, 3) := by decide +kernel
theorem dX5_takeName_4 : decode cX5_takeName 4 = .ok (.invokevirtual 86, 3) := by decide +kernel
theorem dX5_takeName_7 : decode cX5_takeName 7 = .ok (.aload_n 0, 1) := by decide +kernel
theorem dX5_takeName_8 : decode cX5_takeName 8 = .ok (.getfield 28, 3) := by decide +kernel
theorem dX5_takeName_11 : decode cX5_takeName 11 = .ok (.getfield 80, 3) := by decide +kernel
theorem dX5_takeName_14 : decode cX5_takeName 14 = .ok (.iconst 1, 1) := by decide +kernel
theorem dX5_takeName_15 : decode cX5_takeName 15 = .ok (.if_icmp .ne 13, 3) := by decide +kernel
theorem dX5_takeName_18 : decode cX5_takeName 18 = .ok (.aload_n 0, 1) := by decide +kernel
theorem dX5_takeName_19 : decode cX5_takeName 19 = .ok (.getfield 28, 3) := by decide +kernel
theorem dX5_takeName_22 : decode cX5_takeName 22 = .ok (.invokevirtual 110, 3) := by decide +kernel
theorem dX5_takeName_25 : decode cX5_takeName 25 = .ok (.ifnull 9, 3) := by decide +kernel
theorem dX5_takeName_28 : decode cX5_takeName 28 = .ok (.aload_n 0, 1) := by decide +kernel
theorem dX5_takeName_29 : decode cX5_takeName 29 = .ok (.iconst 1, 1) := by decide +kernel
theorem dX5_takeName_30 : decode cX5_takeName 30 = .ok (.invokevirtual 76, 3) := by decide +kernel
theorem dX5_takeName_33 : decode cX5_takeName 33 = .ok (.ireturn, 1) := by decide +kernel
theorem dX5_takeName_34 : decode cX5_takeName 34 = .ok (.aload_n 0, 1) := by decide +kernel
theorem dX5_takeName_35 : decode cX5_takeName 35 = .ok (.bipush (-2), 2) := by decide +kernel
theorem dX5_takeName_37 : decode cX5_takeName 37 = .ok (.putfield 178, 3) := by decide +kernel
theorem dX5_takeName_40 : decode cX5_takeName 40 = .ok (.iconst 0, 1) := by decide +kernel
theorem dX5_takeName_41 : decode cX5_takeName 41 = .ok (.istore_n 1, 1) := by decide +kernel
theorem dX5_takeName_42 : decode cX5_takeName 42 = .ok (.iload_n 1, 1) := by decide +kernel
theorem dX5_takeName_43 : decode cX5_takeName 43 = .ok (.aload_n 0, 1) := by decide +kernel
theorem dX5_takeName_44 : decode cX5_takeName 44 = .ok (.getfield 53, 3) := by decide +kernel
theorem dX5_takeName_47 : decode cX5_takeName 47 = .ok (.if_icmp .ge 37, 3) := by decide +kernel
theorem dX5_takeName_50 : decode cX5_takeName 50 = .ok (.iload_n 1, 1) := by decide +kernel
theorem dX5_takeName_51 : decode cX5_takeName 51 = .ok (.bipush 12, 2) := by decide +kernel
theorem dX5_takeName_53 : decode cX5_takeName 53 = .ok (.if_icmp .ge 31, 3) := by decide +kernel
theorem dX5_takeName_56 : decode cX5_takeName 56 = .ok (.aload_n 0, 1) := by decide +kernel
theorem dX5_takeName_57 : decode cX5_takeName 57 = .ok (.getfield 32, 3) := by decide +kernel
theorem dX5_takeName_60 : decode cX5_takeName 60 = .ok (.iload_n 1, 1) := by decide +kernel
theorem dX5_takeName_61 : decode cX5_takeName 61 = .ok (.laload, 1) := by decide +kernel
theorem dX5_takeName_62 : decode cX5_takeName 62 = .ok (.aload_n 0, 1) := by decide +kernel
theorem dX5_takeName_63 : decode cX5_takeName 63 = .ok (.getfield 28, 3) := by decide +kernel
theorem dX5_takeName_66 : decode cX5_takeName 66 = .ok (.getfield 181, 3) := by decide +kernel
theorem dX5_takeName_69 : decode cX5_takeName 69 = .ok (.lcmp, 1) := by decide +kernel
theorem dX5_takeName_70 : decode cX5_takeName 70 = .ok (.ifCond .ne 8, 3) := by decide +kernel
theorem dX5_takeName_73 : decode cX5_takeName 73 = .ok (.aload_n 0, 1) := by decide +kernel
theorem dX5_takeName_74 : decode cX5_takeName 74 = .ok (.iload_n 1, 1) := by decide +kernel
theorem dX5_takeName_75 : decode cX5_takeName 75 = .ok (.putfield 178, 3) := by decide +kernel
theorem dX5_takeName_78 : decode cX5_takeName 78 = .ok (.iinc 1 1, 3) := by decide +kernel
theorem dX5_takeName_81 : decode cX5_takeName 81 = .ok (.goto (-39), 3) := by decide +kernel
theorem dX5_takeName_84 : decode cX5_takeName 84 = .ok (.iconst 1, 1) := by decide +kernel
theorem dX5_takeName_85 : decode cX5_takeName 85 = .ok (.ireturn, 1) := by decide +kernel
theorem dX5_takeRunning_0 : decode cX5_takeRunning 0 = .ok (.aload_n 0, 1) := by decide +kernel
theorem dX5_takeRunning_1 : decode cX5_takeRunning 1 = .ok (.invokevirtual 175, 3) := by decide +kernel
theorem dX5_takeRunning_4 : decode cX5_takeRunning 4 = .ok (.ifCond .ne 5, 3) := by decide +kernel
theorem dX5_takeRunning_7 : decode cX5_takeRunning 7 = .ok (.iconst 0, 1) := by decide +kernel
theorem dX5_takeRunning_8 : decode cX5_takeRunning 8 = .ok (.ireturn, 1) := by decide +kernel
theorem dX5_takeRunning_9 : decode cX5_takeRunning 9 = .ok (.aload_n 0, 1) := by decide +kernel
theorem dX5_takeRunning_10 : decode cX5_takeRunning 10 = .ok (.getfield 178, 3) := by decide +kernel
theorem dX5_takeRunning_13 : decode cX5_takeRunning 13 = .ok (.bipush (-2), 2) := by decide +kernel
theorem dX5_takeRunning_15 : decode cX5_takeRunning 15 = .ok (.if_icmp .ne 9, 3) := by decide +kernel
theorem dX5_takeRunning_18 : decode cX5_takeRunning 18 = .ok (.aload_n 0, 1) := by decide +kernel
theorem dX5_takeRunning_19 : decode cX5_takeRunning 19 = .ok (.iconst 2, 1) := by decide +kernel
theorem dX5_takeRunning_20 : decode cX5_takeRunning 20 = .ok (.invokevirtual 76, 3) := by decide +kernel
theorem dX5_takeRunning_23 : decode cX5_takeRunning 23 = .ok (.ireturn, 1) := by decide +kernel
theorem dX5_takeRunning_24 : decode cX5_takeRunning 24 = .ok (.aload_n 0, 1) := by decide +kernel
theorem dX5_takeRunning_25 : decode cX5_takeRunning 25 = .ok (.aload_n 0, 1) := by decide +kernel
theorem dX5_takeRunning_26 : decode cX5_takeRunning 26 = .ok (.getfield 178, 3) := by decide +kernel
theorem dX5_takeRunning_29 : decode cX5_takeRunning 29 = .ok (.invokevirtual 188, 3) := by decide +kernel
theorem dX5_takeRunning_32 : decode cX5_takeRunning 32 = .ok (.bipush (-2), 2) := by decide +kernel
theorem dX5_takeRunning_34 : decode cX5_takeRunning 34 = .ok (.if_icmp .ne 12, 3) := by decide +kernel
theorem dX5_takeRunning_37 : decode cX5_takeRunning 37 = .ok (.aload_n 0, 1) := by decide +kernel
theorem dX5_takeRunning_38 : decode cX5_takeRunning 38 = .ok (.bipush 7, 2) := by decide +kernel
theorem dX5_takeRunning_40 : decode cX5_takeRunning 40 = .ok (.invokevirtual 76, 3) := by decide +kernel
theorem dX5_takeRunning_43 : decode cX5_takeRunning 43 = .ok (.ifCond .eq 7, 3) := by decide +kernel
theorem dX5_takeRunning_46 : decode cX5_takeRunning 46 = .ok (.iconst 1, 1) := by decide +kernel
theorem dX5_takeRunning_47 : decode cX5_takeRunning 47 = .ok (.goto 4, 3) := by decide +kernel
theorem dX5_takeRunning_50 : decode cX5_takeRunning 50 = .ok (.iconst 0, 1) := by decide +kernel
theorem dX5_takeRunning_51 : decode cX5_takeRunning 51 = .ok (.ireturn, 1) := by decide +kernel
theorem dX5_takeLineEnd_0 : decode cX5_takeLineEnd 0 = .ok (.aload_n 0, 1) := by decide +kernel
theorem dX5_takeLineEnd_1 : decode cX5_takeLineEnd 1 = .ok (.getfield 28, 3) := by decide +kernel
theorem dX5_takeLineEnd_4 : decode cX5_takeLineEnd 4 = .ok (.invokevirtual 86, 3) := by decide +kernel
theorem dX5_takeLineEnd_7 : decode cX5_takeLineEnd 7 = .ok (.aload_n 0, 1) := by decide +kernel
theorem dX5_takeLineEnd_8 : decode cX5_takeLineEnd 8 = .ok (.getfield 28, 3) := by decide +kernel
theorem dX5_takeLineEnd_11 : decode cX5_takeLineEnd 11 = .ok (.getfield 80, 3) := by decide +kernel
theorem dX5_takeLineEnd_14 : decode cX5_takeLineEnd 14 = .ok (.iconst 3, 1) := by decide +kernel
theorem dX5_takeLineEnd_15 : decode cX5_takeLineEnd 15 = .ok (.if_icmp .eq 21, 3) := by decide +kernel
theorem dX5_takeLineEnd_18 : decode cX5_takeLineEnd 18 = .ok (.aload_n 0, 1) := by decide +kernel
theorem dX5_takeLineEnd_19 : decode cX5_takeLineEnd 19 = .ok (.getfield 28, 3) := by decide +kernel
theorem dX5_takeLineEnd_22 : decode cX5_takeLineEnd 22 = .ok (.getfield 80, 3) := by decide +kernel
theorem dX5_takeLineEnd_25 : decode cX5_takeLineEnd 25 = .ok (.ifCond .eq 11, 3) := by decide +kernel
theorem dX5_takeLineEnd_28 : decode cX5_takeLineEnd 28 = .ok (.aload_n 0, 1) := by decide +kernel
theorem dX5_takeLineEnd_29 : decode cX5_takeLineEnd 29 = .ok (.iconst 1, 1) := by decide +kernel
theorem dX5_takeLineEnd_30 : decode cX5_takeLineEnd 30 = .ok (.invokevirtual 76, 3) := by decide +kernel
theorem dX5_takeLineEnd_33 : decode cX5_takeLineEnd 33 = .ok (.ifCond .eq 7, 3) := by decide +kernel
theorem dX5_takeLineEnd_36 : decode cX5_takeLineEnd 36 = .ok (.iconst 1, 1) := by decide +kernel
theorem dX5_takeLineEnd_37 : decode cX5_takeLineEnd 37 = .ok (.goto 4, 3) := by decide +kernel
theorem dX5_takeLineEnd_40 : decode cX5_takeLineEnd 40 = .ok (.iconst 0, 1) := by decide +kernel
theorem dX5_takeLineEnd_41 : decode cX5_takeLineEnd 41 = .ok (.ireturn, 1) := by decide +kernel
theorem dX5_doAct_0 : decode cX5_doAct 0 = .ok (.aload_n 0, 1) := by decide +kernel
theorem dX5_doAct_1 : decode cX5_doAct 1 = .ok (.getfield 114, 3) := by decide +kernel
theorem dX5_doAct_4 : decode cX5_doAct 4 = .ok (.ifnonnull 5, 3) := by decide +kernel
theorem dX5_doAct_7 : decode cX5_doAct 7 = .ok (.iconst 0, 1) := by decide +kernel
theorem dX5_doAct_8 : decode cX5_doAct 8 = .ok (.ireturn, 1) := by decide +kernel
theorem dX5_doAct_9 : decode cX5_doAct 9 = .ok (.aload_n 0, 1) := by decide +kernel
theorem dX5_doAct_10 : decode cX5_doAct 10 = .ok (.aload_n 0, 1) := by decide +kernel
theorem dX5_doAct_11 : decode cX5_doAct 11 = .ok (.getfield 178, 3) := by decide +kernel
theorem dX5_doAct_14 : decode cX5_doAct 14 = .ok (.invokevirtual 188, 3) := by decide +kernel
theorem dX5_doAct_17 : decode cX5_doAct 17 = .ok (.istore_n 1, 1) := by decide +kernel
theorem dX5_doAct_18 : decode cX5_doAct 18 = .ok (.getstatic 132, 3) := by decide +kernel
theorem dX5_doAct_21 : decode cX5_doAct 21 = .ok (.aload_n 0, 1) := by decide +kernel
theorem dX5_doAct_22 : decode cX5_doAct 22 = .ok (.getfield 114, 3) := by decide +kernel
theorem dX5_doAct_25 : decode cX5_doAct 25 = .ok (.invokevirtual 137, 3) := by decide +kernel
theorem dX5_doAct_28 : decode cX5_doAct 28 = .ok (.iaload, 1) := by decide +kernel
theorem dX5_doAct_29 : decode cX5_doAct 29 = .ok (.tableswitch 206 1 9 #[51, 74, 116, 154, 154, 206, 206, 174, 190], 51) := by decide +kernel
theorem dX5_doAct_80 : decode cX5_doAct 80 = .ok (.aload_n 0, 1) := by decide +kernel
theorem dX5_doAct_81 : decode cX5_doAct 81 = .ok (.getfield 12, 3) := by decide +kernel
theorem dX5_doAct_84 : decode cX5_doAct 84 = .ok (.invokevirtual 207, 3) := by decide +kernel
theorem dX5_doAct_87 : decode cX5_doAct 87 = .ok (.ifCond .eq 14, 3) := by decide +kernel
theorem dX5_doAct_90 : decode cX5_doAct 90 = .ok (.aload_n 0, 1) := by decide +kernel
theorem dX5_doAct_91 : decode cX5_doAct 91 = .ok (.invokevirtual 210, 3) := by decide +kernel
theorem dX5_doAct_94 : decode cX5_doAct 94 = .ok (.ifCond .eq 7, 3) := by decide +kernel
theorem dX5_doAct_97 : decode cX5_doAct 97 = .ok (.iconst 1, 1) := by decide +kernel
theorem dX5_doAct_98 : decode cX5_doAct 98 = .ok (.goto 4, 3) := by decide +kernel
theorem dX5_doAct_101 : decode cX5_doAct 101 = .ok (.iconst 0, 1) := by decide +kernel
