theorem dX9_init_0 : decode cX9_init 0 = .ok (.aload_n 0, 1) := by decide +kernel
theorem dX9_init_1 : decode cX9_init 1 = .ok (.invokespecial 1, 3) := by decide +kernel
theorem dX9_init_4 : decode cX9_init 4 = .ok (.aload_n 0, 1) := by decide +kernel
theorem dX9_init_5 : decode cX9_init 5 = .ok (.new 7, 3) := by decide +kernel
theorem dX9_init_8 : decode cX9_init 8 = .ok (.dup, 1) := by decide +kernel
theorem dX9_init_9 : decode cX9_init 9 = .ok (.invokespecial 9, 3) := by decide +kernel
theorem dX9_init_12 : decode cX9_init 12 = .ok (.putfield 10, 3) := by decide +kernel
theorem dX9_init_15 : decode cX9_init 15 = .ok (.aload_n 0, 1) := by decide +kernel
theorem dX9_init_16 : decode cX9_init 16 = .ok (.new 16, 3) := by decide +kernel
theorem dX9_init_19 : decode cX9_init 19 = .ok (.dup, 1) := by decide +kernel
theorem dX9_init_20 : decode cX9_init 20 = .ok (.invokespecial 18, 3) := by decide +kernel
theorem dX9_init_23 : decode cX9_init 23 = .ok (.putfield 19, 3) := by decide +kernel
theorem dX9_init_26 : decode cX9_init 26 = .ok (.aload_n 0, 1) := by decide +kernel
theorem dX9_init_27 : decode cX9_init 27 = .ok (.new 23, 3) := by decide +kernel
theorem dX9_init_30 : decode cX9_init 30 = .ok (.dup, 1) := by decide +kernel
theorem dX9_init_31 : decode cX9_init 31 = .ok (.invokespecial 25, 3) := by decide +kernel
theorem dX9_init_34 : decode cX9_init 34 = .ok (.putfield 26, 3) := by decide +kernel
theorem dX9_init_37 : decode cX9_init 37 = .ok (.aload_n 0, 1) := by decide +kernel
theorem dX9_init_38 : decode cX9_init 38 = .ok (.new 30, 3) := by decide +kernel
theorem dX9_init_41 : decode cX9_init 41 = .ok (.dup, 1) := by decide +kernel
theorem dX9_init_42 : decode cX9_init 42 = .ok (.invokespecial 32, 3) := by decide +kernel
theorem dX9_init_45 : decode cX9_init 45 = .ok (.putfield 33, 3) := by decide +kernel
theorem dX9_init_48 : decode cX9_init 48 = .ok (.return_, 1) := by decide +kernel
theorem dX9_feed_0 : decode cX9_feed 0 = .ok (.aload_n 0, 1) := by decide +kernel
theorem dX9_feed_1 : decode cX9_feed 1 = .ok (.getfield 10, 3) := by decide +kernel
theorem dX9_feed_4 : decode cX9_feed 4 = .ok (.getfield 37, 3) := by decide +kernel
theorem dX9_feed_7 : decode cX9_feed 7 = .ok (.astore 6, 2) := by decide +kernel
theorem dX9_feed_9 : decode cX9_feed 9 = .ok (.aload 6, 2) := by decide +kernel
theorem dX9_feed_11 : decode cX9_feed 11 = .ok (.getfield 41, 3) := by decide +kernel
theorem dX9_feed_14 : decode cX9_feed 14 = .ok (.bipush 20, 2) := by decide +kernel
theorem dX9_feed_16 : decode cX9_feed 16 = .ok (.iadd, 1) := by decide +kernel
theorem dX9_feed_17 : decode cX9_feed 17 = .ok (.sipush 900, 3) := by decide +kernel
theorem dX9_feed_20 : decode cX9_feed 20 = .ok (.if_icmp .le 5, 3) := by decide +kernel
theorem dX9_feed_23 : decode cX9_feed 23 = .ok (.iconst (-1), 1) := by decide +kernel
theorem dX9_feed_24 : decode cX9_feed 24 = .ok (.ireturn, 1) := by decide +kernel
theorem dX9_feed_25 : decode cX9_feed 25 = .ok (.aload 6, 2) := by decide +kernel
theorem dX9_feed_27 : decode cX9_feed 27 = .ok (.iload_n 1, 1) := by decide +kernel
theorem dX9_feed_28 : decode cX9_feed 28 = .ok (.invokevirtual 47, 3) := by decide +kernel
theorem dX9_feed_31 : decode cX9_feed 31 = .ok (.aload 6, 2) := by decide +kernel
theorem dX9_feed_33 : decode cX9_feed 33 = .ok (.iload_n 2, 1) := by decide +kernel
theorem dX9_feed_34 : decode cX9_feed 34 = .ok (.invokevirtual 47, 3) := by decide +kernel
theorem dX9_feed_37 : decode cX9_feed 37 = .ok (.aload 6, 2) := by decide +kernel
theorem dX9_feed_39 : decode cX9_feed 39 = .ok (.iload_n 3, 1) := by decide +kernel
theorem dX9_feed_40 : decode cX9_feed 40 = .ok (.invokevirtual 47, 3) := by decide +kernel
theorem dX9_feed_43 : decode cX9_feed 43 = .ok (.aload 6, 2) := by decide +kernel
theorem dX9_feed_45 : decode cX9_feed 45 = .ok (.iload 4, 2) := by decide +kernel
theorem dX9_feed_47 : decode cX9_feed 47 = .ok (.invokevirtual 47, 3) := by decide +kernel
theorem dX9_feed_50 : decode cX9_feed 50 = .ok (.aload 6, 2) := by decide +kernel
theorem dX9_feed_52 : decode cX9_feed 52 = .ok (.iload 5, 2) := by decide +kernel
theorem dX9_feed_54 : decode cX9_feed 54 = .ok (.invokevirtual 47, 3) := by decide +kernel
theorem dX9_feed_57 : decode cX9_feed 57 = .ok (.aload 6, 2) := by decide +kernel
theorem dX9_feed_59 : decode cX9_feed 59 = .ok (.getfield 41, 3) := by decide +kernel
theorem dX9_feed_62 : decode cX9_feed 62 = .ok (.ireturn, 1) := by decide +kernel
theorem dX9_store_0 : decode cX9_store 0 = .ok (.iload_n 1, 1) := by decide +kernel
theorem dX9_store_1 : decode cX9_store 1 = .ok (.ifCond .lt 17, 3) := by decide +kernel
theorem dX9_store_4 : decode cX9_store 4 = .ok (.iload_n 1, 1) := by decide +kernel
theorem dX9_store_5 : decode cX9_store 5 = .ok (.aload_n 0, 1) := by decide +kernel
theorem dX9_store_6 : decode cX9_store 6 = .ok (.getfield 10, 3) := by decide +kernel
theorem dX9_store_9 : decode cX9_store 9 = .ok (.getfield 37, 3) := by decide +kernel
theorem dX9_store_12 : decode cX9_store 12 = .ok (.getfield 41, 3) := by decide +kernel
theorem dX9_store_15 : decode cX9_store 15 = .ok (.if_icmp .le 9, 3) := by decide +kernel
theorem dX9_store_18 : decode cX9_store 18 = .ok (.aload_n 0, 1) := by decide +kernel
theorem dX9_store_19 : decode cX9_store 19 = .ok (.iconst 2, 1) := by decide +kernel
theorem dX9_store_20 : decode cX9_store 20 = .ok (.invokevirtual 51, 3) := by decide +kernel
theorem dX9_store_23 : decode cX9_store 23 = .ok (.ireturn, 1) := by decide +kernel
theorem dX9_store_24 : decode cX9_store 24 = .ok (.aload_n 0, 1) := by decide +kernel
theorem dX9_store_25 : decode cX9_store 25 = .ok (.getfield 10, 3) := by decide +kernel
theorem dX9_store_28 : decode cX9_store 28 = .ok (.iload_n 1, 1) := by decide +kernel
theorem dX9_store_29 : decode cX9_store 29 = .ok (.invokevirtual 55, 3) := by decide +kernel
theorem dX9_store_32 : decode cX9_store 32 = .ok (.istore_n 2, 1) := by decide +kernel
theorem dX9_store_33 : decode cX9_store 33 = .ok (.aload_n 0, 1) := by decide +kernel
theorem dX9_store_34 : decode cX9_store 34 = .ok (.aload_n 0, 1) := by decide +kernel
theorem dX9_store_35 : decode cX9_store 35 = .ok (.getfield 10, 3) := by decide +kernel
theorem dX9_store_38 : decode cX9_store 38 = .ok (.getfield 59, 3) := by decide +kernel
theorem dX9_store_41 : decode cX9_store 41 = .ok (.putfield 62, 3) := by decide +kernel
theorem dX9_store_44 : decode cX9_store 44 = .ok (.aload_n 0, 1) := by decide +kernel
theorem dX9_store_45 : decode cX9_store 45 = .ok (.aload_n 0, 1) := by decide +kernel
theorem dX9_store_46 : decode cX9_store 46 = .ok (.getfield 10, 3) := by decide +kernel
theorem dX9_store_49 : decode cX9_store 49 = .ok (.getfield 65, 3) := by decide +kernel
theorem dX9_store_52 : decode cX9_store 52 = .ok (.putfield 68, 3) := by decide +kernel
theorem dX9_store_55 : decode cX9_store 55 = .ok (.iload_n 2, 1) := by decide +kernel
theorem dX9_store_56 : decode cX9_store 56 = .ok (.ifCond .ne 9, 3) := by decide +kernel
theorem dX9_store_59 : decode cX9_store 59 = .ok (.aload_n 0, 1) := by decide +kernel
theorem dX9_store_60 : decode cX9_store 60 = .ok (.iconst 4, 1) := by decide +kernel
theorem dX9_store_61 : decode cX9_store 61 = .ok (.invokevirtual 51, 3) := by decide +kernel
theorem dX9_store_64 : decode cX9_store 64 = .ok (.ireturn, 1) := by decide +kernel
theorem dX9_store_65 : decode cX9_store 65 = .ok (.aload_n 0, 1) := by decide +kernel
theorem dX9_store_66 : decode cX9_store 66 = .ok (.getfield 19, 3) := by decide +kernel
theorem dX9_store_69 : decode cX9_store 69 = .ok (.aload_n 0, 1) := by decide +kernel
theorem dX9_store_70 : decode cX9_store 70 = .ok (.getfield 10, 3) := by decide +kernel
theorem dX9_store_73 : decode cX9_store 73 = .ok (.getfield 71, 3) := by decide +kernel
theorem dX9_store_76 : decode cX9_store 76 = .ok (.invokevirtual 72, 3) := by decide +kernel
theorem dX9_store_79 : decode cX9_store 79 = .ok (.aload_n 0, 1) := by decide +kernel
theorem dX9_store_80 : decode cX9_store 80 = .ok (.getfield 26, 3) := by decide +kernel
theorem dX9_store_83 : decode cX9_store 83 = .ok (.aload_n 0, 1) := by decide +kernel
theorem dX9_store_84 : decode cX9_store 84 = .ok (.getfield 10, 3) := by decide +kernel
theorem dX9_store_87 : decode cX9_store 87 = .ok (.getfield 76, 3) := by decide +kernel
theorem dX9_store_90 : decode cX9_store 90 = .ok (.invokevirtual 77, 3) := by decide +kernel
theorem dX9_store_93 : decode cX9_store 93 = .ok (.aload_n 0, 1) := by decide +kernel
theorem dX9_store_94 : decode cX9_store 94 = .ok (.getfield 26, 3) := by decide +kernel
theorem dX9_store_97 : decode cX9_store 97 = .ok (.aload_n 0, 1) := by decide +kernel
theorem dX9_store_98 : decode cX9_store 98 = .ok (.getfield 19, 3) := by decide +kernel
theorem dX9_store_101 : decode cX9_store 101 = .ok (.invokevirtual 80, 3) := by decide +kernel
theorem dX9_store_104 : decode cX9_store 104 = .ok (.aload_n 0, 1) := by decide +kernel
theorem dX9_store_105 : decode cX9_store 105 = .ok (.getfield 33, 3) := by decide +kernel
theorem dX9_store_108 : decode cX9_store 108 = .ok (.invokevirtual 83, 3) := by decide +kernel
theorem dX9_store_111 : decode cX9_store 111 = .ok (.aload_n 0, 1) := by decide +kernel
theorem dX9_store_112 : decode cX9_store 112 = .ok (.aload_n 0, 1) := by decide +kernel
theorem dX9_store_113 : decode cX9_store 113 = .ok (.getfield 19, 3) := by decide +kernel
theorem dX9_store_116 : decode cX9_store 116 = .ok (.getfield 86, 3) := by decide +kernel
theorem dX9_store_119 : decode cX9_store 119 = .ok (.invokevirtual 89, 3) := by decide +kernel
theorem dX9_store_122 : decode cX9_store 122 = .ok (.ireturn, 1) := by decide +kernel
theorem dX9_fault_0 : decode cX9_fault 0 = .ok (.aload_n 0, 1) := by decide +kernel
theorem dX9_fault_1 : decode cX9_fault 1 = .ok (.getfield 62, 3) := by decide +kernel
theorem dX9_fault_4 : decode cX9_fault 4 = .ok (.ireturn, 1) := by decide +kernel
theorem dX9_where_0 : decode cX9_where 0 = .ok (.aload_n 0, 1) := by decide +kernel
theorem dX9_where_1 : decode cX9_where 1 = .ok (.getfield 92, 3) := by decide +kernel
theorem dX9_where_4 : decode cX9_where 4 = .ok (.iconst 4, 1) := by decide +kernel
theorem dX9_where_5 : decode cX9_where 5 = .ok (.if_icmp .ne 10, 3) := by decide +kernel
theorem dX9_where_8 : decode cX9_where 8 = .ok (.aload_n 0, 1) := by decide +kernel
theorem dX9_where_9 : decode cX9_where 9 = .ok (.getfield 68, 3) := by decide +kernel
theorem dX9_where_12 : decode cX9_where 12 = .ok (.goto 4, 3) := by decide +kernel
theorem dX9_where_15 : decode cX9_where 15 = .ok (.iconst (-1), 1) := by decide +kernel
theorem dX9_where_16 : decode cX9_where 16 = .ok (.ireturn, 1) := by decide +kernel
theorem dX9_next_0 : decode cX9_next 0 = .ok (.aload_n 0, 1) := by decide +kernel
theorem dX9_next_1 : decode cX9_next 1 = .ok (.invokevirtual 95, 3) := by decide +kernel
theorem dX9_next_4 : decode cX9_next 4 = .ok (.ifCond .eq 17, 3) := by decide +kernel
theorem dX9_next_7 : decode cX9_next 7 = .ok (.aload_n 0, 1) := by decide +kernel
theorem dX9_next_8 : decode cX9_next 8 = .ok (.aload_n 0, 1) := by decide +kernel
theorem dX9_next_9 : decode cX9_next 9 = .ok (.getfield 19, 3) := by decide +kernel
theorem dX9_next_12 : decode cX9_next 12 = .ok (.getfield 99, 3) := by decide +kernel
theorem dX9_next_15 : decode cX9_next 15 = .ok (.invokevirtual 89, 3) := by decide +kernel
theorem dX9_next_18 : decode cX9_next 18 = .ok (.goto 8, 3) := by decide +kernel
theorem dX9_next_21 : decode cX9_next 21 = .ok (.aload_n 0, 1) := by decide +kernel
theorem dX9_next_22 : decode cX9_next 22 = .ok (.iconst 1, 1) := by decide +kernel
theorem dX9_next_23 : decode cX9_next 23 = .ok (.invokevirtual 51, 3) := by decide +kernel
theorem dX9_next_26 : decode cX9_next 26 = .ok (.ireturn, 1) := by decide +kernel
theorem dX9_age_0 : decode cX9_age 0 = .ok (.aload_n 0, 1) := by decide +kernel
theorem dX9_age_1 : decode cX9_age 1 = .ok (.iload_n 1, 1) := by decide +kernel
theorem dX9_age_2 : decode cX9_age 2 = .ok (.invokevirtual 102, 3) := by decide +kernel
theorem dX9_age_5 : decode cX9_age 5 = .ok (.istore_n 2, 1) := by decide +kernel
theorem dX9_age_6 : decode cX9_age 6 = .ok (.iload_n 2, 1) := by decide +kernel
theorem dX9_age_7 : decode cX9_age 7 = .ok (.ifCond .eq 11, 3) := by decide +kernel
theorem dX9_age_10 : decode cX9_age 10 = .ok (.aload_n 0, 1) := by decide +kernel
theorem dX9_age_11 : decode cX9_age 11 = .ok (.iload_n 2, 1) := by decide +kernel
theorem dX9_age_12 : decode cX9_age 12 = .ok (.invokevirtual 51, 3) := by decide +kernel
theorem dX9_age_15 : decode cX9_age 15 = .ok (.goto 15, 3) := by decide +kernel
theorem dX9_age_18 : decode cX9_age 18 = .ok (.aload_n 0, 1) := by decide +kernel
theorem dX9_age_19 : decode cX9_age 19 = .ok (.aload_n 0, 1) := by decide +kernel
theorem dX9_age_20 : decode cX9_age 20 = .ok (.getfield 19, 3) := by decide +kernel
theorem dX9_age_23 : decode cX9_age 23 = .ok (.iload_n 1, 1) := by decide +kernel
theorem dX9_age_24 : decode cX9_age 24 = .ok (.invokevirtual 105, 3) := by decide +kernel
theorem dX9_age_27 : decode cX9_age 27 = .ok (.invokevirtual 89, 3) := by decide +kernel
theorem dX9_age_30 : decode cX9_age 30 = .ok (.ireturn, 1) := by decide +kernel
theorem dX9_older_0 : decode cX9_older 0 = .ok (.aload_n 0, 1) := by decide +kernel
theorem dX9_older_1 : decode cX9_older 1 = .ok (.iload_n 1, 1) := by decide +kernel
theorem dX9_older_2 : decode cX9_older 2 = .ok (.iload_n 2, 1) := by decide +kernel
theorem dX9_older_3 : decode cX9_older 3 = .ok (.invokevirtual 108, 3) := by decide +kernel
theorem dX9_older_6 : decode cX9_older 6 = .ok (.istore_n 3, 1) := by decide +kernel
theorem dX9_older_7 : decode cX9_older 7 = .ok (.iload_n 3, 1) := by decide +kernel
theorem dX9_older_8 : decode cX9_older 8 = .ok (.ifCond .eq 11, 3) := by decide +kernel
theorem dX9_older_11 : decode cX9_older 11 = .ok (.aload_n 0, 1) := by decide +kernel
theorem dX9_older_12 : decode cX9_older 12 = .ok (.iload_n 3, 1) := by decide +kernel
theorem dX9_older_13 : decode cX9_older 13 = .ok (.invokevirtual 51, 3) := by decide +kernel
theorem dX9_older_16 : decode cX9_older 16 = .ok (.goto 22, 3) := by decide +kernel
theorem dX9_older_19 : decode cX9_older 19 = .ok (.aload_n 0, 1) := by decide +kernel
theorem dX9_older_20 : decode cX9_older 20 = .ok (.aload_n 0, 1) := by decide +kernel
theorem dX9_older_21 : decode cX9_older 21 = .ok (.getfield 19, 3) := by decide +kernel
theorem dX9_older_24 : decode cX9_older 24 = .ok (.iload_n 2, 1) := by decide +kernel
theorem dX9_older_25 : decode cX9_older 25 = .ok (.invokevirtual 112, 3) := by decide +kernel
theorem dX9_older_28 : decode cX9_older 28 = .ok (.iload_n 1, 1) := by decide +kernel
theorem dX9_older_29 : decode cX9_older 29 = .ok (.invokestatic 116, 3) := by decide +kernel
theorem dX9_older_32 : decode cX9_older 32 = .ok (.invokestatic 120, 3) := by decide +kernel
theorem dX9_older_35 : decode cX9_older 35 = .ok (.invokevirtual 89, 3) := by decide +kernel
theorem dX9_older_38 : decode cX9_older 38 = .ok (.ireturn, 1) := by decide +kernel
theorem dX9_oldest_0 : decode cX9_oldest 0 = .ok (.aload_n 0, 1) := by decide +kernel
theorem dX9_oldest_1 : decode cX9_oldest 1 = .ok (.invokevirtual 95, 3) := by decide +kernel
theorem dX9_oldest_4 : decode cX9_oldest 4 = .ok (.ifCond .eq 24, 3) := by decide +kernel
theorem dX9_oldest_7 : decode cX9_oldest 7 = .ok (.aload_n 0, 1) := by decide +kernel
theorem dX9_oldest_8 : decode cX9_oldest 8 = .ok (.aload_n 0, 1) := by decide +kernel
theorem dX9_oldest_9 : decode cX9_oldest 9 = .ok (.getfield 19, 3) := by decide +kernel
theorem dX9_oldest_12 : decode cX9_oldest 12 = .ok (.aload_n 0, 1) := by decide +kernel
theorem dX9_oldest_13 : decode cX9_oldest 13 = .ok (.getfield 19, 3) := by decide +kernel
theorem dX9_oldest_16 : decode cX9_oldest 16 = .ok (.invokevirtual 124, 3) := by decide +kernel
theorem dX9_oldest_19 : decode cX9_oldest 19 = .ok (.invokevirtual 128, 3) := by decide +kernel
theorem dX9_oldest_22 : decode cX9_oldest 22 = .ok (.invokevirtual 89, 3) := by decide +kernel
theorem dX9_oldest_25 : decode cX9_oldest 25 = .ok (.goto 8, 3) := by decide +kernel
theorem dX9_oldest_28 : decode cX9_oldest 28 = .ok (.aload_n 0, 1) := by decide +kernel
theorem dX9_oldest_29 : decode cX9_oldest 29 = .ok (.iconst 1, 1) := by decide +kernel
theorem dX9_oldest_30 : decode cX9_oldest 30 = .ok (.invokevirtual 51, 3) := by decide +kernel
theorem dX9_oldest_33 : decode cX9_oldest 33 = .ok (.ireturn, 1) := by decide +kernel
theorem dX9_room_0 : decode cX9_room 0 = .ok (.aload_n 0, 1) := by decide +kernel
theorem dX9_room_1 : decode cX9_room 1 = .ok (.invokevirtual 95, 3) := by decide +kernel
theorem dX9_room_4 : decode cX9_room 4 = .ok (.ifCond .eq 24, 3) := by decide +kernel
theorem dX9_room_7 : decode cX9_room 7 = .ok (.aload_n 0, 1) := by decide +kernel
theorem dX9_room_8 : decode cX9_room 8 = .ok (.aload_n 0, 1) := by decide +kernel
theorem dX9_room_9 : decode cX9_room 9 = .ok (.getfield 19, 3) := by decide +kernel
theorem dX9_room_12 : decode cX9_room 12 = .ok (.aload_n 0, 1) := by decide +kernel
theorem dX9_room_13 : decode cX9_room 13 = .ok (.getfield 19, 3) := by decide +kernel
theorem dX9_room_16 : decode cX9_room 16 = .ok (.invokevirtual 124, 3) := by decide +kernel
theorem dX9_room_19 : decode cX9_room 19 = .ok (.invokevirtual 132, 3) := by decide +kernel
theorem dX9_room_22 : decode cX9_room 22 = .ok (.invokevirtual 89, 3) := by decide +kernel
theorem dX9_room_25 : decode cX9_room 25 = .ok (.goto 8, 3) := by decide +kernel
theorem dX9_room_28 : decode cX9_room 28 = .ok (.aload_n 0, 1) := by decide +kernel
theorem dX9_room_29 : decode cX9_room 29 = .ok (.iconst 1, 1) := by decide +kernel
theorem dX9_room_30 : decode cX9_room 30 = .ok (.invokevirtual 51, 3) := by decide +kernel
theorem dX9_room_33 : decode cX9_room 33 = .ok (.ireturn, 1) := by decide +kernel
theorem dX9_roomFrozen_0 : decode cX9_roomFrozen 0 = .ok (.aload_n 0, 1) := by decide +kernel
theorem dX9_roomFrozen_1 : decode cX9_roomFrozen 1 = .ok (.invokevirtual 95, 3) := by decide +kernel
theorem dX9_roomFrozen_4 : decode cX9_roomFrozen 4 = .ok (.ifCond .eq 24, 3) := by decide +kernel
theorem dX9_roomFrozen_7 : decode cX9_roomFrozen 7 = .ok (.aload_n 0, 1) := by decide +kernel
theorem dX9_roomFrozen_8 : decode cX9_roomFrozen 8 = .ok (.aload_n 0, 1) := by decide +kernel
theorem dX9_roomFrozen_9 : decode cX9_roomFrozen 9 = .ok (.getfield 19, 3) := by decide +kernel
theorem dX9_roomFrozen_12 : decode cX9_roomFrozen 12 = .ok (.aload_n 0, 1) := by decide +kernel
theorem dX9_roomFrozen_13 : decode cX9_roomFrozen 13 = .ok (.getfield 19, 3) := by decide +kernel
theorem dX9_roomFrozen_16 : decode cX9_roomFrozen 16 = .ok (.invokevirtual 135, 3) := by decide +kernel
theorem dX9_roomFrozen_19 : decode cX9_roomFrozen 19 = .ok (.invokevirtual 132, 3) := by decide +kernel
theorem dX9_roomFrozen_22 : decode cX9_roomFrozen 22 = .ok (.invokevirtual 89, 3) := by decide +kernel
theorem dX9_roomFrozen_25 : decode cX9_roomFrozen 25 = .ok (.goto 8, 3) := by decide +kernel
theorem dX9_roomFrozen_28 : decode cX9_roomFrozen 28 = .ok (.aload_n 0, 1) := by decide +kernel
theorem dX9_roomFrozen_29 : decode cX9_roomFrozen 29 = .ok (.iconst 1, 1) := by decide +kernel
theorem dX9_roomFrozen_30 : decode cX9_roomFrozen 30 = .ok (.invokevirtual 51, 3) := by decide +kernel
theorem dX9_roomFrozen_33 : decode cX9_roomFrozen 33 = .ok (.ireturn, 1) := by decide +kernel
theorem dX9_horizon_0 : decode cX9_horizon 0 = .ok (.aload_n 0, 1) := by decide +kernel
theorem dX9_horizon_1 : decode cX9_horizon 1 = .ok (.invokevirtual 95, 3) := by decide +kernel
theorem dX9_horizon_4 : decode cX9_horizon 4 = .ok (.ifCond .eq 19, 3) := by decide +kernel
theorem dX9_horizon_7 : decode cX9_horizon 7 = .ok (.aload_n 0, 1) := by decide +kernel
theorem dX9_horizon_8 : decode cX9_horizon 8 = .ok (.aload_n 0, 1) := by decide +kernel
theorem dX9_horizon_9 : decode cX9_horizon 9 = .ok (.getfield 19, 3) := by decide +kernel
theorem dX9_horizon_12 : decode cX9_horizon 12 = .ok (.bipush (-2), 2) := by decide +kernel
theorem dX9_horizon_14 : decode cX9_horizon 14 = .ok (.invokevirtual 138, 3) := by decide +kernel
theorem dX9_horizon_17 : decode cX9_horizon 17 = .ok (.invokevirtual 89, 3) := by decide +kernel
theorem dX9_horizon_20 : decode cX9_horizon 20 = .ok (.goto 8, 3) := by decide +kernel
theorem dX9_horizon_23 : decode cX9_horizon 23 = .ok (.aload_n 0, 1) := by decide +kernel
theorem dX9_horizon_24 : decode cX9_horizon 24 = .ok (.iconst 1, 1) := by decide +kernel
theorem dX9_horizon_25 : decode cX9_horizon 25 = .ok (.invokevirtual 51, 3) := by decide +kernel
theorem dX9_horizon_28 : decode cX9_horizon 28 = .ok (.ireturn, 1) := by decide +kernel
theorem dX9_writer_0 : decode cX9_writer 0 = .ok (.aload_n 0, 1) := by decide +kernel
theorem dX9_writer_1 : decode cX9_writer 1 = .ok (.getfield 19, 3) := by decide +kernel
theorem dX9_writer_4 : decode cX9_writer 4 = .ok (.iload_n 1, 1) := by decide +kernel
theorem dX9_writer_5 : decode cX9_writer 5 = .ok (.invokevirtual 141, 3) := by decide +kernel
theorem dX9_writer_8 : decode cX9_writer 8 = .ok (.ifCond .ne 9, 3) := by decide +kernel
theorem dX9_writer_11 : decode cX9_writer 11 = .ok (.aload_n 0, 1) := by decide +kernel
theorem dX9_writer_12 : decode cX9_writer 12 = .ok (.iconst 1, 1) := by decide +kernel
theorem dX9_writer_13 : decode cX9_writer 13 = .ok (.invokevirtual 51, 3) := by decide +kernel
theorem dX9_writer_16 : decode cX9_writer 16 = .ok (.ireturn, 1) := by decide +kernel
theorem dX9_writer_17 : decode cX9_writer 17 = .ok (.iload_n 2, 1) := by decide +kernel
theorem dX9_writer_18 : decode cX9_writer 18 = .ok (.tableswitch 116 0 4 #[34, 47, 63, 76, 96], 34) := by decide +kernel
theorem dX9_writer_52 : decode cX9_writer 52 = .ok (.aload_n 0, 1) := by decide +kernel
theorem dX9_writer_53 : decode cX9_writer 53 = .ok (.aload_n 0, 1) := by decide +kernel
theorem dX9_writer_54 : decode cX9_writer 54 = .ok (.getfield 19, 3) := by decide +kernel
theorem dX9_writer_57 : decode cX9_writer 57 = .ok (.iload_n 1, 1) := by decide +kernel
theorem dX9_writer_58 : decode cX9_writer 58 = .ok (.invokevirtual 144, 3) := by decide +kernel
theorem dX9_writer_61 : decode cX9_writer 61 = .ok (.invokevirtual 89, 3) := by decide +kernel
theorem dX9_writer_64 : decode cX9_writer 64 = .ok (.ireturn, 1) := by decide +kernel
theorem dX9_writer_65 : decode cX9_writer 65 = .ok (.aload_n 0, 1) := by decide +kernel
theorem dX9_writer_66 : decode cX9_writer 66 = .ok (.aload_n 0, 1) := by decide +kernel
theorem dX9_writer_67 : decode cX9_writer 67 = .ok (.getfield 19, 3) := by decide +kernel
theorem dX9_writer_70 : decode cX9_writer 70 = .ok (.iload_n 1, 1) := by decide +kernel
theorem dX9_writer_71 : decode cX9_writer 71 = .ok (.invokevirtual 147, 3) := by decide +kernel
theorem dX9_writer_74 : decode cX9_writer 74 = .ok (.invokestatic 120, 3) := by decide +kernel
theorem dX9_writer_77 : decode cX9_writer 77 = .ok (.invokevirtual 89, 3) := by decide +kernel
theorem dX9_writer_80 : decode cX9_writer 80 = .ok (.ireturn, 1) := by decide +kernel
theorem dX9_writer_81 : decode cX9_writer 81 = .ok (.aload_n 0, 1) := by decide +kernel
theorem dX9_writer_82 : decode cX9_writer 82 = .ok (.aload_n 0, 1) := by decide +kernel
theorem dX9_writer_83 : decode cX9_writer 83 = .ok (.getfield 19, 3) := by decide +kernel
theorem dX9_writer_86 : decode cX9_writer 86 = .ok (.iload_n 1, 1) := by decide +kernel
theorem dX9_writer_87 : decode cX9_writer 87 = .ok (.invokevirtual 150, 3) := by decide +kernel
theorem dX9_writer_90 : decode cX9_writer 90 = .ok (.invokevirtual 89, 3) := by decide +kernel
theorem dX9_writer_93 : decode cX9_writer 93 = .ok (.ireturn, 1) := by decide +kernel
theorem dX9_writer_94 : decode cX9_writer 94 = .ok (.aload_n 0, 1) := by decide +kernel
theorem dX9_writer_95 : decode cX9_writer 95 = .ok (.aload_n 0, 1) := by decide +kernel
theorem dX9_writer_96 : decode cX9_writer 96 = .ok (.getfield 19, 3) := by decide +kernel
theorem dX9_writer_99 : decode cX9_writer 99 = .ok (.aload_n 0, 1) := by decide +kernel
theorem dX9_writer_100 : decode cX9_writer 100 = .ok (.getfield 19, 3) := by decide +kernel
theorem dX9_writer_103 : decode cX9_writer 103 = .ok (.iload_n 1, 1) := by decide +kernel
theorem dX9_writer_104 : decode cX9_writer 104 = .ok (.invokevirtual 144, 3) := by decide +kernel
theorem dX9_writer_107 : decode cX9_writer 107 = .ok (.invokevirtual 153, 3) := by decide +kernel
theorem dX9_writer_110 : decode cX9_writer 110 = .ok (.invokevirtual 89, 3) := by decide +kernel
theorem dX9_writer_113 : decode cX9_writer 113 = .ok (.ireturn, 1) := by decide +kernel
theorem dX9_writer_114 : decode cX9_writer 114 = .ok (.aload_n 0, 1) := by decide +kernel
theorem dX9_writer_115 : decode cX9_writer 115 = .ok (.aload_n 0, 1) := by decide +kernel
theorem dX9_writer_116 : decode cX9_writer 116 = .ok (.getfield 19, 3) := by decide +kernel
theorem dX9_writer_119 : decode cX9_writer 119 = .ok (.aload_n 0, 1) := by decide +kernel
theorem dX9_writer_120 : decode cX9_writer 120 = .ok (.getfield 19, 3) := by decide +kernel
theorem dX9_writer_123 : decode cX9_writer 123 = .ok (.iload_n 1, 1) := by decide +kernel
theorem dX9_writer_124 : decode cX9_writer 124 = .ok (.invokevirtual 144, 3) := by decide +kernel
theorem dX9_writer_127 : decode cX9_writer 127 = .ok (.invokevirtual 156, 3) := by decide +kernel
theorem dX9_writer_130 : decode cX9_writer 130 = .ok (.invokevirtual 89, 3) := by decide +kernel
theorem dX9_writer_133 : decode cX9_writer 133 = .ok (.ireturn, 1) := by decide +kernel
theorem dX9_writer_134 : decode cX9_writer 134 = .ok (.aload_n 0, 1) := by decide +kernel
theorem dX9_writer_135 : decode cX9_writer 135 = .ok (.iconst 1, 1) := by decide +kernel
theorem dX9_writer_136 : decode cX9_writer 136 = .ok (.invokevirtual 51, 3) := by decide +kernel
theorem dX9_writer_139 : decode cX9_writer 139 = .ok (.ireturn, 1) := by decide +kernel
theorem dX9_running_0 : decode cX9_running 0 = .ok (.aload_n 0, 1) := by decide +kernel
theorem dX9_running_1 : decode cX9_running 1 = .ok (.invokevirtual 95, 3) := by decide +kernel
theorem dX9_running_4 : decode cX9_running 4 = .ok (.ifCond .eq 17, 3) := by decide +kernel
theorem dX9_running_7 : decode cX9_running 7 = .ok (.aload_n 0, 1) := by decide +kernel
theorem dX9_running_8 : decode cX9_running 8 = .ok (.aload_n 0, 1) := by decide +kernel
theorem dX9_running_9 : decode cX9_running 9 = .ok (.getfield 19, 3) := by decide +kernel
theorem dX9_running_12 : decode cX9_running 12 = .ok (.invokevirtual 159, 3) := by decide +kernel
theorem dX9_running_15 : decode cX9_running 15 = .ok (.invokevirtual 89, 3) := by decide +kernel
theorem dX9_running_18 : decode cX9_running 18 = .ok (.goto 8, 3) := by decide +kernel
theorem dX9_running_21 : decode cX9_running 21 = .ok (.aload_n 0, 1) := by decide +kernel
theorem dX9_running_22 : decode cX9_running 22 = .ok (.iconst 1, 1) := by decide +kernel
theorem dX9_running_23 : decode cX9_running 23 = .ok (.invokevirtual 51, 3) := by decide +kernel
theorem dX9_running_26 : decode cX9_running 26 = .ok (.ireturn, 1) := by decide +kernel
theorem dX9_counts_0 : decode cX9_counts 0 = .ok (.aload_n 0, 1) := by decide +kernel
theorem dX9_counts_1 : decode cX9_counts 1 = .ok (.getfield 19, 3) := by decide +kernel
theorem dX9_counts_4 : decode cX9_counts 4 = .ok (.iload_n 1, 1) := by decide +kernel
theorem dX9_counts_5 : decode cX9_counts 5 = .ok (.invokevirtual 141, 3) := by decide +kernel
theorem dX9_counts_8 : decode cX9_counts 8 = .ok (.ifCond .ne 9, 3) := by decide +kernel
theorem dX9_counts_11 : decode cX9_counts 11 = .ok (.aload_n 0, 1) := by decide +kernel
theorem dX9_counts_12 : decode cX9_counts 12 = .ok (.iconst 1, 1) := by decide +kernel
theorem dX9_counts_13 : decode cX9_counts 13 = .ok (.invokevirtual 51, 3) := by decide +kernel
theorem dX9_counts_16 : decode cX9_counts 16 = .ok (.ireturn, 1) := by decide +kernel
theorem dX9_counts_17 : decode cX9_counts 17 = .ok (.aload_n 0, 1) := by decide +kernel
theorem dX9_counts_18 : decode cX9_counts 18 = .ok (.getfield 19, 3) := by decide +kernel
theorem dX9_counts_21 : decode cX9_counts 21 = .ok (.iload_n 2, 1) := by decide +kernel
theorem dX9_counts_22 : decode cX9_counts 22 = .ok (.invokevirtual 163, 3) := by decide +kernel
theorem dX9_counts_25 : decode cX9_counts 25 = .ok (.ifCond .ne 9, 3) := by decide +kernel
theorem dX9_counts_28 : decode cX9_counts 28 = .ok (.aload_n 0, 1) := by decide +kernel
theorem dX9_counts_29 : decode cX9_counts 29 = .ok (.iconst 2, 1) := by decide +kernel
theorem dX9_counts_30 : decode cX9_counts 30 = .ok (.invokevirtual 51, 3) := by decide +kernel
theorem dX9_counts_33 : decode cX9_counts 33 = .ok (.ireturn, 1) := by decide +kernel
theorem dX9_counts_34 : decode cX9_counts 34 = .ok (.aload_n 0, 1) := by decide +kernel
theorem dX9_counts_35 : decode cX9_counts 35 = .ok (.aload_n 0, 1) := by decide +kernel
theorem dX9_counts_36 : decode cX9_counts 36 = .ok (.getfield 19, 3) := by decide +kernel
theorem dX9_counts_39 : decode cX9_counts 39 = .ok (.iload_n 1, 1) := by decide +kernel
theorem dX9_counts_40 : decode cX9_counts 40 = .ok (.invokevirtual 166, 3) := by decide +kernel
theorem dX9_counts_43 : decode cX9_counts 43 = .ok (.iload_n 2, 1) := by decide +kernel
theorem dX9_counts_44 : decode cX9_counts 44 = .ok (.invokestatic 116, 3) := by decide +kernel
theorem dX9_counts_47 : decode cX9_counts 47 = .ok (.invokestatic 120, 3) := by decide +kernel
theorem dX9_counts_50 : decode cX9_counts 50 = .ok (.invokevirtual 89, 3) := by decide +kernel
theorem dX9_counts_53 : decode cX9_counts 53 = .ok (.ireturn, 1) := by decide +kernel
theorem dX9_holdsBack_0 : decode cX9_holdsBack 0 = .ok (.aload_n 0, 1) := by decide +kernel
theorem dX9_holdsBack_1 : decode cX9_holdsBack 1 = .ok (.invokevirtual 95, 3) := by decide +kernel
theorem dX9_holdsBack_4 : decode cX9_holdsBack 4 = .ok (.ifCond .eq 17, 3) := by decide +kernel
theorem dX9_holdsBack_7 : decode cX9_holdsBack 7 = .ok (.aload_n 0, 1) := by decide +kernel
theorem dX9_holdsBack_8 : decode cX9_holdsBack 8 = .ok (.aload_n 0, 1) := by decide +kernel
theorem dX9_holdsBack_9 : decode cX9_holdsBack 9 = .ok (.getfield 19, 3) := by decide +kernel
theorem dX9_holdsBack_12 : decode cX9_holdsBack 12 = .ok (.invokevirtual 169, 3) := by decide +kernel
theorem dX9_holdsBack_15 : decode cX9_holdsBack 15 = .ok (.invokevirtual 89, 3) := by decide +kernel
theorem dX9_holdsBack_18 : decode cX9_holdsBack 18 = .ok (.goto 8, 3) := by decide +kernel
theorem dX9_holdsBack_21 : decode cX9_holdsBack 21 = .ok (.aload_n 0, 1) := by decide +kernel
theorem dX9_holdsBack_22 : decode cX9_holdsBack 22 = .ok (.iconst 1, 1) := by decide +kernel
theorem dX9_holdsBack_23 : decode cX9_holdsBack 23 = .ok (.invokevirtual 51, 3) := by decide +kernel
theorem dX9_holdsBack_26 : decode cX9_holdsBack 26 = .ok (.ireturn, 1) := by decide +kernel
theorem dX9_frees_0 : decode cX9_frees 0 = .ok (.aload_n 0, 1) := by decide +kernel
theorem dX9_frees_1 : decode cX9_frees 1 = .ok (.getfield 19, 3) := by decide +kernel
theorem dX9_frees_4 : decode cX9_frees 4 = .ok (.iload_n 1, 1) := by decide +kernel
theorem dX9_frees_5 : decode cX9_frees 5 = .ok (.invokevirtual 141, 3) := by decide +kernel
theorem dX9_frees_8 : decode cX9_frees 8 = .ok (.ifCond .ne 9, 3) := by decide +kernel
theorem dX9_frees_11 : decode cX9_frees 11 = .ok (.aload_n 0, 1) := by decide +kernel
theorem dX9_frees_12 : decode cX9_frees 12 = .ok (.iconst 1, 1) := by decide +kernel
theorem dX9_frees_13 : decode cX9_frees 13 = .ok (.invokevirtual 51, 3) := by decide +kernel
theorem dX9_frees_16 : decode cX9_frees 16 = .ok (.ireturn, 1) := by decide +kernel
theorem dX9_frees_17 : decode cX9_frees 17 = .ok (.aload_n 0, 1) := by decide +kernel
theorem dX9_frees_18 : decode cX9_frees 18 = .ok (.aload_n 0, 1) := by decide +kernel
theorem dX9_frees_19 : decode cX9_frees 19 = .ok (.getfield 19, 3) := by decide +kernel
theorem dX9_frees_22 : decode cX9_frees 22 = .ok (.iload_n 1, 1) := by decide +kernel
theorem dX9_frees_23 : decode cX9_frees 23 = .ok (.invokevirtual 172, 3) := by decide +kernel
theorem dX9_frees_26 : decode cX9_frees 26 = .ok (.aload_n 0, 1) := by decide +kernel
theorem dX9_frees_27 : decode cX9_frees 27 = .ok (.getfield 19, 3) := by decide +kernel
theorem dX9_frees_30 : decode cX9_frees 30 = .ok (.bipush (-2), 2) := by decide +kernel
theorem dX9_frees_32 : decode cX9_frees 32 = .ok (.invokevirtual 172, 3) := by decide +kernel
theorem dX9_frees_35 : decode cX9_frees 35 = .ok (.isub, 1) := by decide +kernel
theorem dX9_frees_36 : decode cX9_frees 36 = .ok (.invokevirtual 89, 3) := by decide +kernel
theorem dX9_frees_39 : decode cX9_frees 39 = .ok (.ireturn, 1) := by decide +kernel
theorem dX9_version_0 : decode cX9_version 0 = .ok (.aload_n 0, 1) := by decide +kernel
theorem dX9_version_1 : decode cX9_version 1 = .ok (.getfield 19, 3) := by decide +kernel
theorem dX9_version_4 : decode cX9_version 4 = .ok (.iload_n 1, 1) := by decide +kernel
theorem dX9_version_5 : decode cX9_version 5 = .ok (.invokevirtual 175, 3) := by decide +kernel
theorem dX9_version_8 : decode cX9_version 8 = .ok (.ifCond .ne 9, 3) := by decide +kernel
theorem dX9_version_11 : decode cX9_version 11 = .ok (.aload_n 0, 1) := by decide +kernel
theorem dX9_version_12 : decode cX9_version 12 = .ok (.iconst 1, 1) := by decide +kernel
theorem dX9_version_13 : decode cX9_version 13 = .ok (.invokevirtual 51, 3) := by decide +kernel
theorem dX9_version_16 : decode cX9_version 16 = .ok (.ireturn, 1) := by decide +kernel
theorem dX9_version_17 : decode cX9_version 17 = .ok (.iload_n 2, 1) := by decide +kernel
theorem dX9_version_18 : decode cX9_version 18 = .ok (.tableswitch 122 0 5 #[38, 51, 64, 77, 90, 106], 38) := by decide +kernel
theorem dX9_version_56 : decode cX9_version 56 = .ok (.aload_n 0, 1) := by decide +kernel
theorem dX9_version_57 : decode cX9_version 57 = .ok (.aload_n 0, 1) := by decide +kernel
theorem dX9_version_58 : decode cX9_version 58 = .ok (.getfield 19, 3) := by decide +kernel
theorem dX9_version_61 : decode cX9_version 61 = .ok (.iload_n 1, 1) := by decide +kernel
theorem dX9_version_62 : decode cX9_version 62 = .ok (.invokevirtual 178, 3) := by decide +kernel
theorem dX9_version_65 : decode cX9_version 65 = .ok (.invokevirtual 89, 3) := by decide +kernel
theorem dX9_version_68 : decode cX9_version 68 = .ok (.ireturn, 1) := by decide +kernel
theorem dX9_version_69 : decode cX9_version 69 = .ok (.aload_n 0, 1) := by decide +kernel
theorem dX9_version_70 : decode cX9_version 70 = .ok (.aload_n 0, 1) := by decide +kernel
theorem dX9_version_71 : decode cX9_version 71 = .ok (.getfield 19, 3) := by decide +kernel
theorem dX9_version_74 : decode cX9_version 74 = .ok (.iload_n 1, 1) := by decide +kernel
theorem dX9_version_75 : decode cX9_version 75 = .ok (.invokevirtual 181, 3) := by decide +kernel
theorem dX9_version_78 : decode cX9_version 78 = .ok (.invokevirtual 89, 3) := by decide +kernel
theorem dX9_version_81 : decode cX9_version 81 = .ok (.ireturn, 1) := by decide +kernel
theorem dX9_version_82 : decode cX9_version 82 = .ok (.aload_n 0, 1) := by decide +kernel
theorem dX9_version_83 : decode cX9_version 83 = .ok (.aload_n 0, 1) := by decide +kernel
theorem dX9_version_84 : decode cX9_version 84 = .ok (.getfield 19, 3) := by decide +kernel
theorem dX9_version_87 : decode cX9_version 87 = .ok (.iload_n 1, 1) := by decide +kernel
theorem dX9_version_88 : decode cX9_version 88 = .ok (.invokevirtual 184, 3) := by decide +kernel
theorem dX9_version_91 : decode cX9_version 91 = .ok (.invokevirtual 89, 3) := by decide +kernel
theorem dX9_version_94 : decode cX9_version 94 = .ok (.ireturn, 1) := by decide +kernel
theorem dX9_version_95 : decode cX9_version 95 = .ok (.aload_n 0, 1) := by decide +kernel
theorem dX9_version_96 : decode cX9_version 96 = .ok (.aload_n 0, 1) := by decide +kernel
theorem dX9_version_97 : decode cX9_version 97 = .ok (.getfield 19, 3) := by decide +kernel
theorem dX9_version_100 : decode cX9_version 100 = .ok (.iload_n 1, 1) := by decide +kernel
theorem dX9_version_101 : decode cX9_version 101 = .ok (.invokevirtual 187, 3) := by decide +kernel
theorem dX9_version_104 : decode cX9_version 104 = .ok (.invokevirtual 89, 3) := by decide +kernel
theorem dX9_version_107 : decode cX9_version 107 = .ok (.ireturn, 1) := by decide +kernel
theorem dX9_version_108 : decode cX9_version 108 = .ok (.aload_n 0, 1) := by decide +kernel
theorem dX9_version_109 : decode cX9_version 109 = .ok (.aload_n 0, 1) := by decide +kernel
theorem dX9_version_110 : decode cX9_version 110 = .ok (.getfield 19, 3) := by decide +kernel
theorem dX9_version_113 : decode cX9_version 113 = .ok (.iload_n 1, 1) := by decide +kernel
theorem dX9_version_114 : decode cX9_version 114 = .ok (.invokevirtual 190, 3) := by decide +kernel
theorem dX9_version_117 : decode cX9_version 117 = .ok (.invokestatic 120, 3) := by decide +kernel
theorem dX9_version_120 : decode cX9_version 120 = .ok (.invokevirtual 89, 3) := by decide +kernel
theorem dX9_version_123 : decode cX9_version 123 = .ok (.ireturn, 1) := by decide +kernel
theorem dX9_version_124 : decode cX9_version 124 = .ok (.aload_n 0, 1) := by decide +kernel
theorem dX9_version_125 : decode cX9_version 125 = .ok (.aload_n 0, 1) := by decide +kernel
theorem dX9_version_126 : decode cX9_version 126 = .ok (.getfield 19, 3) := by decide +kernel
theorem dX9_version_129 : decode cX9_version 129 = .ok (.iload_n 1, 1) := by decide +kernel
theorem dX9_version_130 : decode cX9_version 130 = .ok (.invokevirtual 193, 3) := by decide +kernel
theorem dX9_version_133 : decode cX9_version 133 = .ok (.invokestatic 120, 3) := by decide +kernel
theorem dX9_version_136 : decode cX9_version 136 = .ok (.invokevirtual 89, 3) := by decide +kernel
theorem dX9_version_139 : decode cX9_version 139 = .ok (.ireturn, 1) := by decide +kernel
theorem dX9_version_140 : decode cX9_version 140 = .ok (.aload_n 0, 1) := by decide +kernel
theorem dX9_version_141 : decode cX9_version 141 = .ok (.iconst 1, 1) := by decide +kernel
theorem dX9_version_142 : decode cX9_version 142 = .ok (.invokevirtual 51, 3) := by decide +kernel
theorem dX9_version_145 : decode cX9_version 145 = .ok (.ireturn, 1) := by decide +kernel
theorem dX9_chain_0 : decode cX9_chain 0 = .ok (.aload_n 0, 1) := by decide +kernel
theorem dX9_chain_1 : decode cX9_chain 1 = .ok (.getfield 19, 3) := by decide +kernel
theorem dX9_chain_4 : decode cX9_chain 4 = .ok (.iload_n 1, 1) := by decide +kernel
theorem dX9_chain_5 : decode cX9_chain 5 = .ok (.invokevirtual 196, 3) := by decide +kernel
theorem dX9_chain_8 : decode cX9_chain 8 = .ok (.ifCond .eq 18, 3) := by decide +kernel
theorem dX9_chain_11 : decode cX9_chain 11 = .ok (.aload_n 0, 1) := by decide +kernel
theorem dX9_chain_12 : decode cX9_chain 12 = .ok (.aload_n 0, 1) := by decide +kernel
theorem dX9_chain_13 : decode cX9_chain 13 = .ok (.getfield 19, 3) := by decide +kernel
theorem dX9_chain_16 : decode cX9_chain 16 = .ok (.iload_n 1, 1) := by decide +kernel
theorem dX9_chain_17 : decode cX9_chain 17 = .ok (.invokevirtual 199, 3) := by decide +kernel
theorem dX9_chain_20 : decode cX9_chain 20 = .ok (.invokevirtual 89, 3) := by decide +kernel
theorem dX9_chain_23 : decode cX9_chain 23 = .ok (.goto 8, 3) := by decide +kernel
theorem dX9_chain_26 : decode cX9_chain 26 = .ok (.aload_n 0, 1) := by decide +kernel
theorem dX9_chain_27 : decode cX9_chain 27 = .ok (.iconst 1, 1) := by decide +kernel
theorem dX9_chain_28 : decode cX9_chain 28 = .ok (.invokevirtual 51, 3) := by decide +kernel
theorem dX9_chain_31 : decode cX9_chain 31 = .ok (.ireturn, 1) := by decide +kernel
theorem dX9_chainAt_0 : decode cX9_chainAt 0 = .ok (.aload_n 0, 1) := by decide +kernel
theorem dX9_chainAt_1 : decode cX9_chainAt 1 = .ok (.getfield 19, 3) := by decide +kernel
theorem dX9_chainAt_4 : decode cX9_chainAt 4 = .ok (.iload_n 1, 1) := by decide +kernel
theorem dX9_chainAt_5 : decode cX9_chainAt 5 = .ok (.invokevirtual 196, 3) := by decide +kernel
theorem dX9_chainAt_8 : decode cX9_chainAt 8 = .ok (.ifCond .ne 9, 3) := by decide +kernel
theorem dX9_chainAt_11 : decode cX9_chainAt 11 = .ok (.aload_n 0, 1) := by decide +kernel
theorem dX9_chainAt_12 : decode cX9_chainAt 12 = .ok (.iconst 1, 1) := by decide +kernel
theorem dX9_chainAt_13 : decode cX9_chainAt 13 = .ok (.invokevirtual 51, 3) := by decide +kernel
theorem dX9_chainAt_16 : decode cX9_chainAt 16 = .ok (.ireturn, 1) := by decide +kernel
theorem dX9_chainAt_17 : decode cX9_chainAt 17 = .ok (.aload_n 0, 1) := by decide +kernel
theorem dX9_chainAt_18 : decode cX9_chainAt 18 = .ok (.getfield 19, 3) := by decide +kernel
theorem dX9_chainAt_21 : decode cX9_chainAt 21 = .ok (.iload_n 1, 1) := by decide +kernel
theorem dX9_chainAt_22 : decode cX9_chainAt 22 = .ok (.iload_n 2, 1) := by decide +kernel
theorem dX9_chainAt_23 : decode cX9_chainAt 23 = .ok (.invokevirtual 202, 3) := by decide +kernel
theorem dX9_chainAt_26 : decode cX9_chainAt 26 = .ok (.istore_n 3, 1) := by decide +kernel
theorem dX9_chainAt_27 : decode cX9_chainAt 27 = .ok (.iload_n 3, 1) := by decide +kernel
theorem dX9_chainAt_28 : decode cX9_chainAt 28 = .ok (.bipush (-2), 2) := by decide +kernel
theorem dX9_chainAt_30 : decode cX9_chainAt 30 = .ok (.if_icmp .ne 11, 3) := by decide +kernel
theorem dX9_chainAt_33 : decode cX9_chainAt 33 = .ok (.aload_n 0, 1) := by decide +kernel
theorem dX9_chainAt_34 : decode cX9_chainAt 34 = .ok (.iconst 1, 1) := by decide +kernel
theorem dX9_chainAt_35 : decode cX9_chainAt 35 = .ok (.invokevirtual 51, 3) := by decide +kernel
theorem dX9_chainAt_38 : decode cX9_chainAt 38 = .ok (.goto 8, 3) := by decide +kernel
theorem dX9_chainAt_41 : decode cX9_chainAt 41 = .ok (.aload_n 0, 1) := by decide +kernel
theorem dX9_chainAt_42 : decode cX9_chainAt 42 = .ok (.iload_n 3, 1) := by decide +kernel
theorem dX9_chainAt_43 : decode cX9_chainAt 43 = .ok (.invokevirtual 89, 3) := by decide +kernel
theorem dX9_chainAt_46 : decode cX9_chainAt 46 = .ok (.ireturn, 1) := by decide +kernel
theorem dX9_seenBy_0 : decode cX9_seenBy 0 = .ok (.aload_n 0, 1) := by decide +kernel
theorem dX9_seenBy_1 : decode cX9_seenBy 1 = .ok (.getfield 19, 3) := by decide +kernel
theorem dX9_seenBy_4 : decode cX9_seenBy 4 = .ok (.iload_n 1, 1) := by decide +kernel
theorem dX9_seenBy_5 : decode cX9_seenBy 5 = .ok (.invokevirtual 175, 3) := by decide +kernel
theorem dX9_seenBy_8 : decode cX9_seenBy 8 = .ok (.ifCond .ne 9, 3) := by decide +kernel
theorem dX9_seenBy_11 : decode cX9_seenBy 11 = .ok (.aload_n 0, 1) := by decide +kernel
theorem dX9_seenBy_12 : decode cX9_seenBy 12 = .ok (.iconst 1, 1) := by decide +kernel
theorem dX9_seenBy_13 : decode cX9_seenBy 13 = .ok (.invokevirtual 51, 3) := by decide +kernel
theorem dX9_seenBy_16 : decode cX9_seenBy 16 = .ok (.ireturn, 1) := by decide +kernel
theorem dX9_seenBy_17 : decode cX9_seenBy 17 = .ok (.iconst 0, 1) := by decide +kernel
theorem dX9_seenBy_18 : decode cX9_seenBy 18 = .ok (.istore_n 2, 1) := by decide +kernel
theorem dX9_seenBy_19 : decode cX9_seenBy 19 = .ok (.iconst 0, 1) := by decide +kernel
theorem dX9_seenBy_20 : decode cX9_seenBy 20 = .ok (.istore_n 3, 1) := by decide +kernel
theorem dX9_seenBy_21 : decode cX9_seenBy 21 = .ok (.iload_n 3, 1) := by decide +kernel
theorem dX9_seenBy_22 : decode cX9_seenBy 22 = .ok (.bipush 6, 2) := by decide +kernel
theorem dX9_seenBy_24 : decode cX9_seenBy 24 = .ok (.if_icmp .ge 45, 3) := by decide +kernel
theorem dX9_seenBy_27 : decode cX9_seenBy 27 = .ok (.aload_n 0, 1) := by decide +kernel
theorem dX9_seenBy_28 : decode cX9_seenBy 28 = .ok (.getfield 19, 3) := by decide +kernel
theorem dX9_seenBy_31 : decode cX9_seenBy 31 = .ok (.iload_n 3, 1) := by decide +kernel
theorem dX9_seenBy_32 : decode cX9_seenBy 32 = .ok (.invokevirtual 141, 3) := by decide +kernel
theorem dX9_seenBy_35 : decode cX9_seenBy 35 = .ok (.ifCond .eq 28, 3) := by decide +kernel
theorem dX9_seenBy_38 : decode cX9_seenBy 38 = .ok (.aload_n 0, 1) := by decide +kernel
theorem dX9_seenBy_39 : decode cX9_seenBy 39 = .ok (.getfield 19, 3) := by decide +kernel
theorem dX9_seenBy_42 : decode cX9_seenBy 42 = .ok (.iload_n 1, 1) := by decide +kernel
theorem dX9_seenBy_43 : decode cX9_seenBy 43 = .ok (.aload_n 0, 1) := by decide +kernel
theorem dX9_seenBy_44 : decode cX9_seenBy 44 = .ok (.getfield 19, 3) := by decide +kernel
theorem dX9_seenBy_47 : decode cX9_seenBy 47 = .ok (.iload_n 3, 1) := by decide +kernel
theorem dX9_seenBy_48 : decode cX9_seenBy 48 = .ok (.invokevirtual 166, 3) := by decide +kernel
theorem dX9_seenBy_51 : decode cX9_seenBy 51 = .ok (.invokevirtual 205, 3) := by decide +kernel
theorem dX9_seenBy_54 : decode cX9_seenBy 54 = .ok (.ifCond .eq 9, 3) := by decide +kernel
theorem dX9_seenBy_57 : decode cX9_seenBy 57 = .ok (.iload_n 2, 1) := by decide +kernel
theorem dX9_seenBy_58 : decode cX9_seenBy 58 = .ok (.iconst 1, 1) := by decide +kernel
theorem dX9_seenBy_59 : decode cX9_seenBy 59 = .ok (.iload_n 3, 1) := by decide +kernel
theorem dX9_seenBy_60 : decode cX9_seenBy 60 = .ok (.ishl, 1) := by decide +kernel
theorem dX9_seenBy_61 : decode cX9_seenBy 61 = .ok (.ior, 1) := by decide +kernel
theorem dX9_seenBy_62 : decode cX9_seenBy 62 = .ok (.istore_n 2, 1) := by decide +kernel
theorem dX9_seenBy_63 : decode cX9_seenBy 63 = .ok (.iinc 3 1, 3) := by decide +kernel
theorem dX9_seenBy_66 : decode cX9_seenBy 66 = .ok (.goto (-45), 3) := by decide +kernel
theorem dX9_seenBy_69 : decode cX9_seenBy 69 = .ok (.aload_n 0, 1) := by decide +kernel
theorem dX9_seenBy_70 : decode cX9_seenBy 70 = .ok (.iload_n 2, 1) := by decide +kernel
theorem dX9_seenBy_71 : decode cX9_seenBy 71 = .ok (.invokevirtual 89, 3) := by decide +kernel
theorem dX9_seenBy_74 : decode cX9_seenBy 74 = .ok (.ireturn, 1) := by decide +kernel
theorem dX9_dead_0 : decode cX9_dead 0 = .ok (.aload_n 0, 1) := by decide +kernel
theorem dX9_dead_1 : decode cX9_dead 1 = .ok (.invokevirtual 95, 3) := by decide +kernel
theorem dX9_dead_4 : decode cX9_dead 4 = .ok (.ifCond .eq 19, 3) := by decide +kernel
theorem dX9_dead_7 : decode cX9_dead 7 = .ok (.aload_n 0, 1) := by decide +kernel
theorem dX9_dead_8 : decode cX9_dead 8 = .ok (.aload_n 0, 1) := by decide +kernel
theorem dX9_dead_9 : decode cX9_dead 9 = .ok (.getfield 19, 3) := by decide +kernel
theorem dX9_dead_12 : decode cX9_dead 12 = .ok (.bipush (-2), 2) := by decide +kernel
theorem dX9_dead_14 : decode cX9_dead 14 = .ok (.invokevirtual 172, 3) := by decide +kernel
theorem dX9_dead_17 : decode cX9_dead 17 = .ok (.invokevirtual 89, 3) := by decide +kernel
theorem dX9_dead_20 : decode cX9_dead 20 = .ok (.goto 8, 3) := by decide +kernel
theorem dX9_dead_23 : decode cX9_dead 23 = .ok (.aload_n 0, 1) := by decide +kernel
theorem dX9_dead_24 : decode cX9_dead 24 = .ok (.iconst 1, 1) := by decide +kernel
theorem dX9_dead_25 : decode cX9_dead 25 = .ok (.invokevirtual 51, 3) := by decide +kernel
theorem dX9_dead_28 : decode cX9_dead 28 = .ok (.ireturn, 1) := by decide +kernel
theorem dX9_freezes_0 : decode cX9_freezes 0 = .ok (.aload_n 0, 1) := by decide +kernel
theorem dX9_freezes_1 : decode cX9_freezes 1 = .ok (.invokevirtual 95, 3) := by decide +kernel
theorem dX9_freezes_4 : decode cX9_freezes 4 = .ok (.ifCond .eq 17, 3) := by decide +kernel
theorem dX9_freezes_7 : decode cX9_freezes 7 = .ok (.aload_n 0, 1) := by decide +kernel
theorem dX9_freezes_8 : decode cX9_freezes 8 = .ok (.aload_n 0, 1) := by decide +kernel
theorem dX9_freezes_9 : decode cX9_freezes 9 = .ok (.getfield 19, 3) := by decide +kernel
theorem dX9_freezes_12 : decode cX9_freezes 12 = .ok (.invokevirtual 209, 3) := by decide +kernel
theorem dX9_freezes_15 : decode cX9_freezes 15 = .ok (.invokevirtual 89, 3) := by decide +kernel
theorem dX9_freezes_18 : decode cX9_freezes 18 = .ok (.goto 8, 3) := by decide +kernel
theorem dX9_freezes_21 : decode cX9_freezes 21 = .ok (.aload_n 0, 1) := by decide +kernel
theorem dX9_freezes_22 : decode cX9_freezes 22 = .ok (.iconst 1, 1) := by decide +kernel
theorem dX9_freezes_23 : decode cX9_freezes 23 = .ok (.invokevirtual 51, 3) := by decide +kernel
theorem dX9_freezes_26 : decode cX9_freezes 26 = .ok (.ireturn, 1) := by decide +kernel
theorem dX9_sees_0 : decode cX9_sees 0 = .ok (.aload_n 0, 1) := by decide +kernel
theorem dX9_sees_1 : decode cX9_sees 1 = .ok (.getfield 19, 3) := by decide +kernel
theorem dX9_sees_4 : decode cX9_sees 4 = .ok (.iload_n 1, 1) := by decide +kernel
theorem dX9_sees_5 : decode cX9_sees 5 = .ok (.invokevirtual 141, 3) := by decide +kernel
theorem dX9_sees_8 : decode cX9_sees 8 = .ok (.ifCond .eq 14, 3) := by decide +kernel
theorem dX9_sees_11 : decode cX9_sees 11 = .ok (.aload_n 0, 1) := by decide +kernel
theorem dX9_sees_12 : decode cX9_sees 12 = .ok (.getfield 19, 3) := by decide +kernel
theorem dX9_sees_15 : decode cX9_sees 15 = .ok (.iload_n 2, 1) := by decide +kernel
theorem dX9_sees_16 : decode cX9_sees 16 = .ok (.invokevirtual 196, 3) := by decide +kernel
theorem dX9_sees_19 : decode cX9_sees 19 = .ok (.ifCond .ne 9, 3) := by decide +kernel
theorem dX9_sees_22 : decode cX9_sees 22 = .ok (.aload_n 0, 1) := by decide +kernel
theorem dX9_sees_23 : decode cX9_sees 23 = .ok (.iconst 1, 1) := by decide +kernel
theorem dX9_sees_24 : decode cX9_sees 24 = .ok (.invokevirtual 51, 3) := by decide +kernel
theorem dX9_sees_27 : decode cX9_sees 27 = .ok (.ireturn, 1) := by decide +kernel
theorem dX9_sees_28 : decode cX9_sees 28 = .ok (.aload_n 0, 1) := by decide +kernel
theorem dX9_sees_29 : decode cX9_sees 29 = .ok (.aload_n 0, 1) := by decide +kernel
theorem dX9_sees_30 : decode cX9_sees 30 = .ok (.getfield 19, 3) := by decide +kernel
theorem dX9_sees_33 : decode cX9_sees 33 = .ok (.iload_n 2, 1) := by decide +kernel
theorem dX9_sees_34 : decode cX9_sees 34 = .ok (.aload_n 0, 1) := by decide +kernel
theorem dX9_sees_35 : decode cX9_sees 35 = .ok (.getfield 19, 3) := by decide +kernel
theorem dX9_sees_38 : decode cX9_sees 38 = .ok (.iload_n 1, 1) := by decide +kernel
theorem dX9_sees_39 : decode cX9_sees 39 = .ok (.invokevirtual 166, 3) := by decide +kernel
theorem dX9_sees_42 : decode cX9_sees 42 = .ok (.invokevirtual 212, 3) := by decide +kernel
theorem dX9_sees_45 : decode cX9_sees 45 = .ok (.invokevirtual 89, 3) := by decide +kernel
theorem dX9_sees_48 : decode cX9_sees 48 = .ok (.ireturn, 1) := by decide +kernel
theorem dX9_read_0 : decode cX9_read 0 = .ok (.aload_n 0, 1) := by decide +kernel
theorem dX9_read_1 : decode cX9_read 1 = .ok (.getfield 19, 3) := by decide +kernel
theorem dX9_read_4 : decode cX9_read 4 = .ok (.iload_n 1, 1) := by decide +kernel
theorem dX9_read_5 : decode cX9_read 5 = .ok (.invokevirtual 141, 3) := by decide +kernel
theorem dX9_read_8 : decode cX9_read 8 = .ok (.ifCond .eq 14, 3) := by decide +kernel
theorem dX9_read_11 : decode cX9_read 11 = .ok (.aload_n 0, 1) := by decide +kernel
theorem dX9_read_12 : decode cX9_read 12 = .ok (.getfield 19, 3) := by decide +kernel
theorem dX9_read_15 : decode cX9_read 15 = .ok (.iload_n 2, 1) := by decide +kernel
theorem dX9_read_16 : decode cX9_read 16 = .ok (.invokevirtual 196, 3) := by decide +kernel
theorem dX9_read_19 : decode cX9_read 19 = .ok (.ifCond .ne 9, 3) := by decide +kernel
theorem dX9_read_22 : decode cX9_read 22 = .ok (.aload_n 0, 1) := by decide +kernel
theorem dX9_read_23 : decode cX9_read 23 = .ok (.iconst 1, 1) := by decide +kernel
theorem dX9_read_24 : decode cX9_read 24 = .ok (.invokevirtual 51, 3) := by decide +kernel
theorem dX9_read_27 : decode cX9_read 27 = .ok (.ireturn, 1) := by decide +kernel
theorem dX9_read_28 : decode cX9_read 28 = .ok (.aload_n 0, 1) := by decide +kernel
theorem dX9_read_29 : decode cX9_read 29 = .ok (.aload_n 0, 1) := by decide +kernel
theorem dX9_read_30 : decode cX9_read 30 = .ok (.getfield 19, 3) := by decide +kernel
theorem dX9_read_33 : decode cX9_read 33 = .ok (.iload_n 2, 1) := by decide +kernel
theorem dX9_read_34 : decode cX9_read 34 = .ok (.aload_n 0, 1) := by decide +kernel
theorem dX9_read_35 : decode cX9_read 35 = .ok (.getfield 19, 3) := by decide +kernel
theorem dX9_read_38 : decode cX9_read 38 = .ok (.iload_n 1, 1) := by decide +kernel
theorem dX9_read_39 : decode cX9_read 39 = .ok (.invokevirtual 166, 3) := by decide +kernel
theorem dX9_read_42 : decode cX9_read 42 = .ok (.invokevirtual 216, 3) := by decide +kernel
theorem dX9_read_45 : decode cX9_read 45 = .ok (.invokevirtual 89, 3) := by decide +kernel
theorem dX9_read_48 : decode cX9_read 48 = .ok (.ireturn, 1) := by decide +kernel
theorem dX9_sum_0 : decode cX9_sum 0 = .ok (.aload_n 0, 1) := by decide +kernel
theorem dX9_sum_1 : decode cX9_sum 1 = .ok (.getfield 19, 3) := by decide +kernel
theorem dX9_sum_4 : decode cX9_sum 4 = .ok (.iload_n 1, 1) := by decide +kernel
theorem dX9_sum_5 : decode cX9_sum 5 = .ok (.invokevirtual 141, 3) := by decide +kernel
theorem dX9_sum_8 : decode cX9_sum 8 = .ok (.ifCond .eq 25, 3) := by decide +kernel
theorem dX9_sum_11 : decode cX9_sum 11 = .ok (.aload_n 0, 1) := by decide +kernel
theorem dX9_sum_12 : decode cX9_sum 12 = .ok (.aload_n 0, 1) := by decide +kernel
theorem dX9_sum_13 : decode cX9_sum 13 = .ok (.getfield 19, 3) := by decide +kernel
theorem dX9_sum_16 : decode cX9_sum 16 = .ok (.aload_n 0, 1) := by decide +kernel
theorem dX9_sum_17 : decode cX9_sum 17 = .ok (.getfield 19, 3) := by decide +kernel
theorem dX9_sum_20 : decode cX9_sum 20 = .ok (.iload_n 1, 1) := by decide +kernel
theorem dX9_sum_21 : decode cX9_sum 21 = .ok (.invokevirtual 166, 3) := by decide +kernel
theorem dX9_sum_24 : decode cX9_sum 24 = .ok (.invokevirtual 219, 3) := by decide +kernel
theorem dX9_sum_27 : decode cX9_sum 27 = .ok (.invokevirtual 89, 3) := by decide +kernel
theorem dX9_sum_30 : decode cX9_sum 30 = .ok (.goto 8, 3) := by decide +kernel
theorem dX9_sum_33 : decode cX9_sum 33 = .ok (.aload_n 0, 1) := by decide +kernel
theorem dX9_sum_34 : decode cX9_sum 34 = .ok (.iconst 1, 1) := by decide +kernel
theorem dX9_sum_35 : decode cX9_sum 35 = .ok (.invokevirtual 51, 3) := by decide +kernel
theorem dX9_sum_38 : decode cX9_sum 38 = .ok (.ireturn, 1) := by decide +kernel
theorem dX9_differ_0 : decode cX9_differ 0 = .ok (.aload_n 0, 1) := by decide +kernel
theorem dX9_differ_1 : decode cX9_differ 1 = .ok (.getfield 19, 3) := by decide +kernel
theorem dX9_differ_4 : decode cX9_differ 4 = .ok (.iload_n 1, 1) := by decide +kernel
theorem dX9_differ_5 : decode cX9_differ 5 = .ok (.invokevirtual 141, 3) := by decide +kernel
theorem dX9_differ_8 : decode cX9_differ 8 = .ok (.ifCond .eq 14, 3) := by decide +kernel
theorem dX9_differ_11 : decode cX9_differ 11 = .ok (.aload_n 0, 1) := by decide +kernel
theorem dX9_differ_12 : decode cX9_differ 12 = .ok (.getfield 19, 3) := by decide +kernel
theorem dX9_differ_15 : decode cX9_differ 15 = .ok (.iload_n 2, 1) := by decide +kernel
theorem dX9_differ_16 : decode cX9_differ 16 = .ok (.invokevirtual 141, 3) := by decide +kernel
theorem dX9_differ_19 : decode cX9_differ 19 = .ok (.ifCond .ne 9, 3) := by decide +kernel
theorem dX9_differ_22 : decode cX9_differ 22 = .ok (.aload_n 0, 1) := by decide +kernel
theorem dX9_differ_23 : decode cX9_differ 23 = .ok (.iconst 1, 1) := by decide +kernel
theorem dX9_differ_24 : decode cX9_differ 24 = .ok (.invokevirtual 51, 3) := by decide +kernel
theorem dX9_differ_27 : decode cX9_differ 27 = .ok (.ireturn, 1) := by decide +kernel
theorem dX9_differ_28 : decode cX9_differ 28 = .ok (.aload_n 0, 1) := by decide +kernel
theorem dX9_differ_29 : decode cX9_differ 29 = .ok (.getfield 19, 3) := by decide +kernel
theorem dX9_differ_32 : decode cX9_differ 32 = .ok (.iload_n 1, 1) := by decide +kernel
theorem dX9_differ_33 : decode cX9_differ 33 = .ok (.invokevirtual 166, 3) := by decide +kernel
theorem dX9_differ_36 : decode cX9_differ 36 = .ok (.lstore_n 3, 1) := by decide +kernel
theorem dX9_differ_37 : decode cX9_differ 37 = .ok (.aload_n 0, 1) := by decide +kernel
theorem dX9_differ_38 : decode cX9_differ 38 = .ok (.getfield 19, 3) := by decide +kernel
theorem dX9_differ_41 : decode cX9_differ 41 = .ok (.iload_n 2, 1) := by decide +kernel
theorem dX9_differ_42 : decode cX9_differ 42 = .ok (.invokevirtual 166, 3) := by decide +kernel
theorem dX9_differ_45 : decode cX9_differ 45 = .ok (.lstore 5, 2) := by decide +kernel
theorem dX9_differ_47 : decode cX9_differ 47 = .ok (.iconst 0, 1) := by decide +kernel
theorem dX9_differ_48 : decode cX9_differ 48 = .ok (.istore 7, 2) := by decide +kernel
theorem dX9_differ_50 : decode cX9_differ 50 = .ok (.iconst 0, 1) := by decide +kernel
theorem dX9_differ_51 : decode cX9_differ 51 = .ok (.istore 8, 2) := by decide +kernel
theorem dX9_differ_53 : decode cX9_differ 53 = .ok (.iload 8, 2) := by decide +kernel
theorem dX9_differ_55 : decode cX9_differ 55 = .ok (.aload_n 0, 1) := by decide +kernel
theorem dX9_differ_56 : decode cX9_differ 56 = .ok (.getfield 19, 3) := by decide +kernel
theorem dX9_differ_59 : decode cX9_differ 59 = .ok (.getfield 222, 3) := by decide +kernel
theorem dX9_differ_62 : decode cX9_differ 62 = .ok (.if_icmp .ge 42, 3) := by decide +kernel
theorem dX9_differ_65 : decode cX9_differ 65 = .ok (.aload_n 0, 1) := by decide +kernel
theorem dX9_differ_66 : decode cX9_differ 66 = .ok (.getfield 19, 3) := by decide +kernel
theorem dX9_differ_69 : decode cX9_differ 69 = .ok (.iload 8, 2) := by decide +kernel
theorem dX9_differ_71 : decode cX9_differ 71 = .ok (.lload_n 3, 1) := by decide +kernel
theorem dX9_differ_72 : decode cX9_differ 72 = .ok (.invokevirtual 212, 3) := by decide +kernel
theorem dX9_differ_75 : decode cX9_differ 75 = .ok (.aload_n 0, 1) := by decide +kernel
theorem dX9_differ_76 : decode cX9_differ 76 = .ok (.getfield 19, 3) := by decide +kernel
theorem dX9_differ_79 : decode cX9_differ 79 = .ok (.iload 8, 2) := by decide +kernel
theorem dX9_differ_81 : decode cX9_differ 81 = .ok (.lload 5, 2) := by decide +kernel
theorem dX9_differ_83 : decode cX9_differ 83 = .ok (.invokevirtual 212, 3) := by decide +kernel
theorem dX9_differ_86 : decode cX9_differ 86 = .ok (.if_icmp .eq 12, 3) := by decide +kernel
theorem dX9_differ_89 : decode cX9_differ 89 = .ok (.iload 7, 2) := by decide +kernel
theorem dX9_differ_91 : decode cX9_differ 91 = .ok (.iconst 1, 1) := by decide +kernel
theorem dX9_differ_92 : decode cX9_differ 92 = .ok (.iload 8, 2) := by decide +kernel
theorem dX9_differ_94 : decode cX9_differ 94 = .ok (.ishl, 1) := by decide +kernel
theorem dX9_differ_95 : decode cX9_differ 95 = .ok (.ior, 1) := by decide +kernel
theorem dX9_differ_96 : decode cX9_differ 96 = .ok (.istore 7, 2) := by decide +kernel
theorem dX9_differ_98 : decode cX9_differ 98 = .ok (.iinc 8 1, 3) := by decide +kernel
theorem dX9_differ_101 : decode cX9_differ 101 = .ok (.goto (-48), 3) := by decide +kernel
theorem dX9_differ_104 : decode cX9_differ 104 = .ok (.aload_n 0, 1) := by decide +kernel
theorem dX9_differ_105 : decode cX9_differ 105 = .ok (.iload 7, 2) := by decide +kernel
theorem dX9_differ_107 : decode cX9_differ 107 = .ok (.invokevirtual 89, 3) := by decide +kernel
theorem dX9_differ_110 : decode cX9_differ 110 = .ok (.ireturn, 1) := by decide +kernel
theorem dX9_fresh_0 : decode cX9_fresh 0 = .ok (.aload_n 0, 1) := by decide +kernel
theorem dX9_fresh_1 : decode cX9_fresh 1 = .ok (.getfield 19, 3) := by decide +kernel
theorem dX9_fresh_4 : decode cX9_fresh 4 = .ok (.iload_n 1, 1) := by decide +kernel
theorem dX9_fresh_5 : decode cX9_fresh 5 = .ok (.invokevirtual 196, 3) := by decide +kernel
theorem dX9_fresh_8 : decode cX9_fresh 8 = .ok (.ifCond .eq 25, 3) := by decide +kernel
theorem dX9_fresh_11 : decode cX9_fresh 11 = .ok (.aload_n 0, 1) := by decide +kernel
theorem dX9_fresh_12 : decode cX9_fresh 12 = .ok (.aload_n 0, 1) := by decide +kernel
theorem dX9_fresh_13 : decode cX9_fresh 13 = .ok (.getfield 19, 3) := by decide +kernel
theorem dX9_fresh_16 : decode cX9_fresh 16 = .ok (.iload_n 1, 1) := by decide +kernel
theorem dX9_fresh_17 : decode cX9_fresh 17 = .ok (.aload_n 0, 1) := by decide +kernel
theorem dX9_fresh_18 : decode cX9_fresh 18 = .ok (.getfield 19, 3) := by decide +kernel
theorem dX9_fresh_21 : decode cX9_fresh 21 = .ok (.invokevirtual 225, 3) := by decide +kernel
theorem dX9_fresh_24 : decode cX9_fresh 24 = .ok (.invokevirtual 216, 3) := by decide +kernel
theorem dX9_fresh_27 : decode cX9_fresh 27 = .ok (.invokevirtual 89, 3) := by decide +kernel
theorem dX9_fresh_30 : decode cX9_fresh 30 = .ok (.goto 8, 3) := by decide +kernel
theorem dX9_fresh_33 : decode cX9_fresh 33 = .ok (.aload_n 0, 1) := by decide +kernel
theorem dX9_fresh_34 : decode cX9_fresh 34 = .ok (.iconst 1, 1) := by decide +kernel
theorem dX9_fresh_35 : decode cX9_fresh 35 = .ok (.invokevirtual 51, 3) := by decide +kernel
theorem dX9_fresh_38 : decode cX9_fresh 38 = .ok (.ireturn, 1) := by decide +kernel
theorem dX9_freshSum_0 : decode cX9_freshSum 0 = .ok (.aload_n 0, 1) := by decide +kernel
theorem dX9_freshSum_1 : decode cX9_freshSum 1 = .ok (.invokevirtual 95, 3) := by decide +kernel
theorem dX9_freshSum_4 : decode cX9_freshSum 4 = .ok (.ifCond .eq 24, 3) := by decide +kernel
theorem dX9_freshSum_7 : decode cX9_freshSum 7 = .ok (.aload_n 0, 1) := by decide +kernel
theorem dX9_freshSum_8 : decode cX9_freshSum 8 = .ok (.aload_n 0, 1) := by decide +kernel
theorem dX9_freshSum_9 : decode cX9_freshSum 9 = .ok (.getfield 19, 3) := by decide +kernel
theorem dX9_freshSum_12 : decode cX9_freshSum 12 = .ok (.aload_n 0, 1) := by decide +kernel
theorem dX9_freshSum_13 : decode cX9_freshSum 13 = .ok (.getfield 19, 3) := by decide +kernel
theorem dX9_freshSum_16 : decode cX9_freshSum 16 = .ok (.invokevirtual 225, 3) := by decide +kernel
theorem dX9_freshSum_19 : decode cX9_freshSum 19 = .ok (.invokevirtual 219, 3) := by decide +kernel
theorem dX9_freshSum_22 : decode cX9_freshSum 22 = .ok (.invokevirtual 89, 3) := by decide +kernel
theorem dX9_freshSum_25 : decode cX9_freshSum 25 = .ok (.goto 8, 3) := by decide +kernel
theorem dX9_freshSum_28 : decode cX9_freshSum 28 = .ok (.aload_n 0, 1) := by decide +kernel
theorem dX9_freshSum_29 : decode cX9_freshSum 29 = .ok (.iconst 1, 1) := by decide +kernel
theorem dX9_freshSum_30 : decode cX9_freshSum 30 = .ok (.invokevirtual 51, 3) := by decide +kernel
theorem dX9_freshSum_33 : decode cX9_freshSum 33 = .ok (.ireturn, 1) := by decide +kernel
theorem dX9_asOf_0 : decode cX9_asOf 0 = .ok (.aload_n 0, 1) := by decide +kernel
