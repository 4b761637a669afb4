theorem dX10_roomOf_21 : decode cX10_roomOf 21 = .ok (.bipush (-2), 2) := by decide +kernel
theorem dX10_roomOf_23 : decode cX10_roomOf 23 = .ok (.goto 25, 3) := by decide +kernel
theorem dX10_roomOf_26 : decode cX10_roomOf 26 = .ok (.iload_n 2, 1) := by decide +kernel
theorem dX10_roomOf_27 : decode cX10_roomOf 27 = .ok (.aload_n 0, 1) := by decide +kernel
theorem dX10_roomOf_28 : decode cX10_roomOf 28 = .ok (.getfield 74, 3) := by decide +kernel
theorem dX10_roomOf_31 : decode cX10_roomOf 31 = .ok (.iconst 2, 1) := by decide +kernel
theorem dX10_roomOf_32 : decode cX10_roomOf 32 = .ok (.idiv, 1) := by decide +kernel
theorem dX10_roomOf_33 : decode cX10_roomOf 33 = .ok (.if_icmp .ge 14, 3) := by decide +kernel
theorem dX10_roomOf_36 : decode cX10_roomOf 36 = .ok (.aload_n 0, 1) := by decide +kernel
theorem dX10_roomOf_37 : decode cX10_roomOf 37 = .ok (.getfield 74, 3) := by decide +kernel
theorem dX10_roomOf_40 : decode cX10_roomOf 40 = .ok (.iconst 2, 1) := by decide +kernel
theorem dX10_roomOf_41 : decode cX10_roomOf 41 = .ok (.idiv, 1) := by decide +kernel
theorem dX10_roomOf_42 : decode cX10_roomOf 42 = .ok (.iload_n 2, 1) := by decide +kernel
theorem dX10_roomOf_43 : decode cX10_roomOf 43 = .ok (.isub, 1) := by decide +kernel
theorem dX10_roomOf_44 : decode cX10_roomOf 44 = .ok (.goto 4, 3) := by decide +kernel
theorem dX10_roomOf_47 : decode cX10_roomOf 47 = .ok (.iconst 0, 1) := by decide +kernel
theorem dX10_roomOf_48 : decode cX10_roomOf 48 = .ok (.ireturn, 1) := by decide +kernel
theorem dX10_room_0 : decode cX10_room 0 = .ok (.aload_n 0, 1) := by decide +kernel
theorem dX10_room_1 : decode cX10_room 1 = .ok (.invokevirtual 247, 3) := by decide +kernel
theorem dX10_room_4 : decode cX10_room 4 = .ok (.aload_n 0, 1) := by decide +kernel
theorem dX10_room_5 : decode cX10_room 5 = .ok (.getfield 260, 3) := by decide +kernel
theorem dX10_room_8 : decode cX10_room 8 = .ok (.ifCond .eq 14, 3) := by decide +kernel
theorem dX10_room_11 : decode cX10_room 11 = .ok (.aload_n 0, 1) := by decide +kernel
theorem dX10_room_12 : decode cX10_room 12 = .ok (.aload_n 0, 1) := by decide +kernel
theorem dX10_room_13 : decode cX10_room 13 = .ok (.getfield 38, 3) := by decide +kernel
theorem dX10_room_16 : decode cX10_room 16 = .ok (.invokevirtual 352, 3) := by decide +kernel
theorem dX10_room_19 : decode cX10_room 19 = .ok (.goto 8, 3) := by decide +kernel
theorem dX10_room_22 : decode cX10_room 22 = .ok (.aload_n 0, 1) := by decide +kernel
theorem dX10_room_23 : decode cX10_room 23 = .ok (.iconst 1, 1) := by decide +kernel
theorem dX10_room_24 : decode cX10_room 24 = .ok (.invokevirtual 250, 3) := by decide +kernel
theorem dX10_room_27 : decode cX10_room 27 = .ok (.ireturn, 1) := by decide +kernel
theorem dX10_roomFrozen_0 : decode cX10_roomFrozen 0 = .ok (.aload_n 0, 1) := by decide +kernel
theorem dX10_roomFrozen_1 : decode cX10_roomFrozen 1 = .ok (.invokevirtual 247, 3) := by decide +kernel
theorem dX10_roomFrozen_4 : decode cX10_roomFrozen 4 = .ok (.aload_n 0, 1) := by decide +kernel
theorem dX10_roomFrozen_5 : decode cX10_roomFrozen 5 = .ok (.getfield 260, 3) := by decide +kernel
theorem dX10_roomFrozen_8 : decode cX10_roomFrozen 8 = .ok (.ifCond .ne 9, 3) := by decide +kernel
theorem dX10_roomFrozen_11 : decode cX10_roomFrozen 11 = .ok (.aload_n 0, 1) := by decide +kernel
theorem dX10_roomFrozen_12 : decode cX10_roomFrozen 12 = .ok (.iconst 1, 1) := by decide +kernel
theorem dX10_roomFrozen_13 : decode cX10_roomFrozen 13 = .ok (.invokevirtual 250, 3) := by decide +kernel
theorem dX10_roomFrozen_16 : decode cX10_roomFrozen 16 = .ok (.ireturn, 1) := by decide +kernel
theorem dX10_roomFrozen_17 : decode cX10_roomFrozen 17 = .ok (.aload_n 0, 1) := by decide +kernel
theorem dX10_roomFrozen_18 : decode cX10_roomFrozen 18 = .ok (.getfield 38, 3) := by decide +kernel
theorem dX10_roomFrozen_21 : decode cX10_roomFrozen 21 = .ok (.iconst 0, 1) := by decide +kernel
theorem dX10_roomFrozen_22 : decode cX10_roomFrozen 22 = .ok (.aload_n 0, 1) := by decide +kernel
theorem dX10_roomFrozen_23 : decode cX10_roomFrozen 23 = .ok (.getfield 41, 3) := by decide +kernel
theorem dX10_roomFrozen_26 : decode cX10_roomFrozen 26 = .ok (.iconst 0, 1) := by decide +kernel
theorem dX10_roomFrozen_27 : decode cX10_roomFrozen 27 = .ok (.sipush 325, 3) := by decide +kernel
theorem dX10_roomFrozen_30 : decode cX10_roomFrozen 30 = .ok (.invokestatic 256, 3) := by decide +kernel
theorem dX10_roomFrozen_33 : decode cX10_roomFrozen 33 = .ok (.aload_n 0, 1) := by decide +kernel
theorem dX10_roomFrozen_34 : decode cX10_roomFrozen 34 = .ok (.aload_n 0, 1) := by decide +kernel
theorem dX10_roomFrozen_35 : decode cX10_roomFrozen 35 = .ok (.getfield 41, 3) := by decide +kernel
theorem dX10_roomFrozen_38 : decode cX10_roomFrozen 38 = .ok (.invokevirtual 339, 3) := by decide +kernel
theorem dX10_roomFrozen_41 : decode cX10_roomFrozen 41 = .ok (.pop, 1) := by decide +kernel
theorem dX10_roomFrozen_42 : decode cX10_roomFrozen 42 = .ok (.aload_n 0, 1) := by decide +kernel
theorem dX10_roomFrozen_43 : decode cX10_roomFrozen 43 = .ok (.aload_n 0, 1) := by decide +kernel
theorem dX10_roomFrozen_44 : decode cX10_roomFrozen 44 = .ok (.getfield 41, 3) := by decide +kernel
theorem dX10_roomFrozen_47 : decode cX10_roomFrozen 47 = .ok (.invokevirtual 342, 3) := by decide +kernel
theorem dX10_roomFrozen_50 : decode cX10_roomFrozen 50 = .ok (.pop, 1) := by decide +kernel
theorem dX10_roomFrozen_51 : decode cX10_roomFrozen 51 = .ok (.aload_n 0, 1) := by decide +kernel
theorem dX10_roomFrozen_52 : decode cX10_roomFrozen 52 = .ok (.aload_n 0, 1) := by decide +kernel
theorem dX10_roomFrozen_53 : decode cX10_roomFrozen 53 = .ok (.getfield 41, 3) := by decide +kernel
theorem dX10_roomFrozen_56 : decode cX10_roomFrozen 56 = .ok (.invokevirtual 352, 3) := by decide +kernel
theorem dX10_roomFrozen_59 : decode cX10_roomFrozen 59 = .ok (.ireturn, 1) := by decide +kernel
theorem dX10_horizon_0 : decode cX10_horizon 0 = .ok (.aload_n 0, 1) := by decide +kernel
theorem dX10_horizon_1 : decode cX10_horizon 1 = .ok (.invokevirtual 247, 3) := by decide +kernel
theorem dX10_horizon_4 : decode cX10_horizon 4 = .ok (.aload_n 0, 1) := by decide +kernel
theorem dX10_horizon_5 : decode cX10_horizon 5 = .ok (.getfield 260, 3) := by decide +kernel
theorem dX10_horizon_8 : decode cX10_horizon 8 = .ok (.ifCond .eq 14, 3) := by decide +kernel
theorem dX10_horizon_11 : decode cX10_horizon 11 = .ok (.aload_n 0, 1) := by decide +kernel
theorem dX10_horizon_12 : decode cX10_horizon 12 = .ok (.aload_n 0, 1) := by decide +kernel
theorem dX10_horizon_13 : decode cX10_horizon 13 = .ok (.getfield 38, 3) := by decide +kernel
theorem dX10_horizon_16 : decode cX10_horizon 16 = .ok (.invokevirtual 123, 3) := by decide +kernel
theorem dX10_horizon_19 : decode cX10_horizon 19 = .ok (.goto 8, 3) := by decide +kernel
theorem dX10_horizon_22 : decode cX10_horizon 22 = .ok (.aload_n 0, 1) := by decide +kernel
theorem dX10_horizon_23 : decode cX10_horizon 23 = .ok (.iconst 1, 1) := by decide +kernel
theorem dX10_horizon_24 : decode cX10_horizon 24 = .ok (.invokevirtual 250, 3) := by decide +kernel
theorem dX10_horizon_27 : decode cX10_horizon 27 = .ok (.ireturn, 1) := by decide +kernel
theorem dX10_snapshotOf_0 : decode cX10_snapshotOf 0 = .ok (.iconst 0, 1) := by decide +kernel
theorem dX10_snapshotOf_1 : decode cX10_snapshotOf 1 = .ok (.istore_n 2, 1) := by decide +kernel
theorem dX10_snapshotOf_2 : decode cX10_snapshotOf 2 = .ok (.iconst 0, 1) := by decide +kernel
theorem dX10_snapshotOf_3 : decode cX10_snapshotOf 3 = .ok (.istore_n 3, 1) := by decide +kernel
theorem dX10_snapshotOf_4 : decode cX10_snapshotOf 4 = .ok (.iload_n 3, 1) := by decide +kernel
theorem dX10_snapshotOf_5 : decode cX10_snapshotOf 5 = .ok (.aload_n 0, 1) := by decide +kernel
theorem dX10_snapshotOf_6 : decode cX10_snapshotOf 6 = .ok (.getfield 74, 3) := by decide +kernel
theorem dX10_snapshotOf_9 : decode cX10_snapshotOf 9 = .ok (.if_icmp .ge 30, 3) := by decide +kernel
theorem dX10_snapshotOf_12 : decode cX10_snapshotOf 12 = .ok (.iload_n 2, 1) := by decide +kernel
theorem dX10_snapshotOf_13 : decode cX10_snapshotOf 13 = .ok (.aload_n 0, 1) := by decide +kernel
theorem dX10_snapshotOf_14 : decode cX10_snapshotOf 14 = .ok (.aload_n 0, 1) := by decide +kernel
theorem dX10_snapshotOf_15 : decode cX10_snapshotOf 15 = .ok (.getfield 38, 3) := by decide +kernel
theorem dX10_snapshotOf_18 : decode cX10_snapshotOf 18 = .ok (.iload_n 1, 1) := by decide +kernel
theorem dX10_snapshotOf_19 : decode cX10_snapshotOf 19 = .ok (.iload_n 3, 1) := by decide +kernel
theorem dX10_snapshotOf_20 : decode cX10_snapshotOf 20 = .ok (.invokevirtual 92, 3) := by decide +kernel
theorem dX10_snapshotOf_23 : decode cX10_snapshotOf 23 = .ok (.ifCond .eq 7, 3) := by decide +kernel
theorem dX10_snapshotOf_26 : decode cX10_snapshotOf 26 = .ok (.iconst 1, 1) := by decide +kernel
theorem dX10_snapshotOf_27 : decode cX10_snapshotOf 27 = .ok (.goto 4, 3) := by decide +kernel
theorem dX10_snapshotOf_30 : decode cX10_snapshotOf 30 = .ok (.iconst 0, 1) := by decide +kernel
theorem dX10_snapshotOf_31 : decode cX10_snapshotOf 31 = .ok (.iadd, 1) := by decide +kernel
theorem dX10_snapshotOf_32 : decode cX10_snapshotOf 32 = .ok (.istore_n 2, 1) := by decide +kernel
theorem dX10_snapshotOf_33 : decode cX10_snapshotOf 33 = .ok (.iinc 3 1, 3) := by decide +kernel
theorem dX10_snapshotOf_36 : decode cX10_snapshotOf 36 = .ok (.goto (-32), 3) := by decide +kernel
theorem dX10_snapshotOf_39 : decode cX10_snapshotOf 39 = .ok (.iload_n 2, 1) := by decide +kernel
theorem dX10_snapshotOf_40 : decode cX10_snapshotOf 40 = .ok (.ireturn, 1) := by decide +kernel
theorem dX10_withStamp_0 : decode cX10_withStamp 0 = .ok (.iconst 0, 1) := by decide +kernel
theorem dX10_withStamp_1 : decode cX10_withStamp 1 = .ok (.istore_n 3, 1) := by decide +kernel
theorem dX10_withStamp_2 : decode cX10_withStamp 2 = .ok (.iconst 0, 1) := by decide +kernel
theorem dX10_withStamp_3 : decode cX10_withStamp 3 = .ok (.istore 4, 2) := by decide +kernel
theorem dX10_withStamp_5 : decode cX10_withStamp 5 = .ok (.iload 4, 2) := by decide +kernel
theorem dX10_withStamp_7 : decode cX10_withStamp 7 = .ok (.bipush 48, 2) := by decide +kernel
theorem dX10_withStamp_9 : decode cX10_withStamp 9 = .ok (.if_icmp .ge 42, 3) := by decide +kernel
theorem dX10_withStamp_12 : decode cX10_withStamp 12 = .ok (.iload_n 3, 1) := by decide +kernel
theorem dX10_withStamp_13 : decode cX10_withStamp 13 = .ok (.aload_n 0, 1) := by decide +kernel
theorem dX10_withStamp_14 : decode cX10_withStamp 14 = .ok (.getfield 38, 3) := by decide +kernel
theorem dX10_withStamp_17 : decode cX10_withStamp 17 = .ok (.iconst 0, 1) := by decide +kernel
theorem dX10_withStamp_18 : decode cX10_withStamp 18 = .ok (.iload 4, 2) := by decide +kernel
theorem dX10_withStamp_20 : decode cX10_withStamp 20 = .ok (.iadd, 1) := by decide +kernel
theorem dX10_withStamp_21 : decode cX10_withStamp 21 = .ok (.iaload, 1) := by decide +kernel
theorem dX10_withStamp_22 : decode cX10_withStamp 22 = .ok (.ifCond .le 20, 3) := by decide +kernel
theorem dX10_withStamp_25 : decode cX10_withStamp 25 = .ok (.aload_n 0, 1) := by decide +kernel
theorem dX10_withStamp_26 : decode cX10_withStamp 26 = .ok (.getfield 38, 3) := by decide +kernel
theorem dX10_withStamp_29 : decode cX10_withStamp 29 = .ok (.iload_n 1, 1) := by decide +kernel
theorem dX10_withStamp_30 : decode cX10_withStamp 30 = .ok (.iload 4, 2) := by decide +kernel
theorem dX10_withStamp_32 : decode cX10_withStamp 32 = .ok (.iadd, 1) := by decide +kernel
theorem dX10_withStamp_33 : decode cX10_withStamp 33 = .ok (.iaload, 1) := by decide +kernel
theorem dX10_withStamp_34 : decode cX10_withStamp 34 = .ok (.iload_n 2, 1) := by decide +kernel
theorem dX10_withStamp_35 : decode cX10_withStamp 35 = .ok (.if_icmp .ne 7, 3) := by decide +kernel
theorem dX10_withStamp_38 : decode cX10_withStamp 38 = .ok (.iconst 1, 1) := by decide +kernel
theorem dX10_withStamp_39 : decode cX10_withStamp 39 = .ok (.goto 4, 3) := by decide +kernel
theorem dX10_withStamp_42 : decode cX10_withStamp 42 = .ok (.iconst 0, 1) := by decide +kernel
theorem dX10_withStamp_43 : decode cX10_withStamp 43 = .ok (.iadd, 1) := by decide +kernel
theorem dX10_withStamp_44 : decode cX10_withStamp 44 = .ok (.istore_n 3, 1) := by decide +kernel
theorem dX10_withStamp_45 : decode cX10_withStamp 45 = .ok (.iinc 4 1, 3) := by decide +kernel
theorem dX10_withStamp_48 : decode cX10_withStamp 48 = .ok (.goto (-43), 3) := by decide +kernel
theorem dX10_withStamp_51 : decode cX10_withStamp 51 = .ok (.iload_n 3, 1) := by decide +kernel
theorem dX10_withStamp_52 : decode cX10_withStamp 52 = .ok (.ireturn, 1) := by decide +kernel
theorem dX10_writer_0 : decode cX10_writer 0 = .ok (.aload_n 0, 1) := by decide +kernel
theorem dX10_writer_1 : decode cX10_writer 1 = .ok (.invokevirtual 247, 3) := by decide +kernel
theorem dX10_writer_4 : decode cX10_writer 4 = .ok (.aload_n 0, 1) := by decide +kernel
theorem dX10_writer_5 : decode cX10_writer 5 = .ok (.iload_n 1, 1) := by decide +kernel
theorem dX10_writer_6 : decode cX10_writer 6 = .ok (.invokevirtual 355, 3) := by decide +kernel
theorem dX10_writer_9 : decode cX10_writer 9 = .ok (.ifCond .eq 12, 3) := by decide +kernel
theorem dX10_writer_12 : decode cX10_writer 12 = .ok (.iload_n 2, 1) := by decide +kernel
theorem dX10_writer_13 : decode cX10_writer 13 = .ok (.iconst 0, 1) := by decide +kernel
theorem dX10_writer_14 : decode cX10_writer 14 = .ok (.iconst 4, 1) := by decide +kernel
theorem dX10_writer_15 : decode cX10_writer 15 = .ok (.invokestatic 81, 3) := by decide +kernel
theorem dX10_writer_18 : decode cX10_writer 18 = .ok (.ifCond .ne 9, 3) := by decide +kernel
theorem dX10_writer_21 : decode cX10_writer 21 = .ok (.aload_n 0, 1) := by decide +kernel
theorem dX10_writer_22 : decode cX10_writer 22 = .ok (.iconst 1, 1) := by decide +kernel
theorem dX10_writer_23 : decode cX10_writer 23 = .ok (.invokevirtual 250, 3) := by decide +kernel
theorem dX10_writer_26 : decode cX10_writer 26 = .ok (.ireturn, 1) := by decide +kernel
theorem dX10_writer_27 : decode cX10_writer 27 = .ok (.iload_n 2, 1) := by decide +kernel
theorem dX10_writer_28 : decode cX10_writer 28 = .ok (.tableswitch 79 0 3 #[32, 43, 56, 62], 32) := by decide +kernel
theorem dX10_writer_60 : decode cX10_writer 60 = .ok (.aload_n 0, 1) := by decide +kernel
theorem dX10_writer_61 : decode cX10_writer 61 = .ok (.getfield 38, 3) := by decide +kernel
theorem dX10_writer_64 : decode cX10_writer 64 = .ok (.sipush 304, 3) := by decide +kernel
theorem dX10_writer_67 : decode cX10_writer 67 = .ok (.iload_n 1, 1) := by decide +kernel
theorem dX10_writer_68 : decode cX10_writer 68 = .ok (.iadd, 1) := by decide +kernel
theorem dX10_writer_69 : decode cX10_writer 69 = .ok (.iaload, 1) := by decide +kernel
theorem dX10_writer_70 : decode cX10_writer 70 = .ok (.ireturn, 1) := by decide +kernel
theorem dX10_writer_71 : decode cX10_writer 71 = .ok (.aload_n 0, 1) := by decide +kernel
theorem dX10_writer_72 : decode cX10_writer 72 = .ok (.getfield 38, 3) := by decide +kernel
theorem dX10_writer_75 : decode cX10_writer 75 = .ok (.sipush 310, 3) := by decide +kernel
theorem dX10_writer_78 : decode cX10_writer 78 = .ok (.iaload, 1) := by decide +kernel
theorem dX10_writer_79 : decode cX10_writer 79 = .ok (.iload_n 1, 1) := by decide +kernel
theorem dX10_writer_80 : decode cX10_writer 80 = .ok (.ishr, 1) := by decide +kernel
theorem dX10_writer_81 : decode cX10_writer 81 = .ok (.iconst 1, 1) := by decide +kernel
theorem dX10_writer_82 : decode cX10_writer 82 = .ok (.iand, 1) := by decide +kernel
theorem dX10_writer_83 : decode cX10_writer 83 = .ok (.ireturn, 1) := by decide +kernel
theorem dX10_writer_84 : decode cX10_writer 84 = .ok (.aload_n 0, 1) := by decide +kernel
theorem dX10_writer_85 : decode cX10_writer 85 = .ok (.iload_n 1, 1) := by decide +kernel
theorem dX10_writer_86 : decode cX10_writer 86 = .ok (.invokevirtual 358, 3) := by decide +kernel
theorem dX10_writer_89 : decode cX10_writer 89 = .ok (.ireturn, 1) := by decide +kernel
theorem dX10_writer_90 : decode cX10_writer 90 = .ok (.aload_n 0, 1) := by decide +kernel
theorem dX10_writer_91 : decode cX10_writer 91 = .ok (.bipush 96, 2) := by decide +kernel
theorem dX10_writer_93 : decode cX10_writer 93 = .ok (.aload_n 0, 1) := by decide +kernel
theorem dX10_writer_94 : decode cX10_writer 94 = .ok (.getfield 38, 3) := by decide +kernel
theorem dX10_writer_97 : decode cX10_writer 97 = .ok (.sipush 304, 3) := by decide +kernel
theorem dX10_writer_100 : decode cX10_writer 100 = .ok (.iload_n 1, 1) := by decide +kernel
theorem dX10_writer_101 : decode cX10_writer 101 = .ok (.iadd, 1) := by decide +kernel
theorem dX10_writer_102 : decode cX10_writer 102 = .ok (.iaload, 1) := by decide +kernel
theorem dX10_writer_103 : decode cX10_writer 103 = .ok (.invokevirtual 361, 3) := by decide +kernel
theorem dX10_writer_106 : decode cX10_writer 106 = .ok (.ireturn, 1) := by decide +kernel
theorem dX10_writer_107 : decode cX10_writer 107 = .ok (.aload_n 0, 1) := by decide +kernel
theorem dX10_writer_108 : decode cX10_writer 108 = .ok (.sipush 144, 3) := by decide +kernel
theorem dX10_writer_111 : decode cX10_writer 111 = .ok (.aload_n 0, 1) := by decide +kernel
theorem dX10_writer_112 : decode cX10_writer 112 = .ok (.getfield 38, 3) := by decide +kernel
theorem dX10_writer_115 : decode cX10_writer 115 = .ok (.sipush 304, 3) := by decide +kernel
theorem dX10_writer_118 : decode cX10_writer 118 = .ok (.iload_n 1, 1) := by decide +kernel
theorem dX10_writer_119 : decode cX10_writer 119 = .ok (.iadd, 1) := by decide +kernel
theorem dX10_writer_120 : decode cX10_writer 120 = .ok (.iaload, 1) := by decide +kernel
theorem dX10_writer_121 : decode cX10_writer 121 = .ok (.invokevirtual 361, 3) := by decide +kernel
theorem dX10_writer_124 : decode cX10_writer 124 = .ok (.ireturn, 1) := by decide +kernel
theorem dX10_running_0 : decode cX10_running 0 = .ok (.aload_n 0, 1) := by decide +kernel
theorem dX10_running_1 : decode cX10_running 1 = .ok (.invokevirtual 247, 3) := by decide +kernel
theorem dX10_running_4 : decode cX10_running 4 = .ok (.aload_n 0, 1) := by decide +kernel
theorem dX10_running_5 : decode cX10_running 5 = .ok (.getfield 260, 3) := by decide +kernel
theorem dX10_running_8 : decode cX10_running 8 = .ok (.ifCond .ne 9, 3) := by decide +kernel
theorem dX10_running_11 : decode cX10_running 11 = .ok (.aload_n 0, 1) := by decide +kernel
theorem dX10_running_12 : decode cX10_running 12 = .ok (.iconst 1, 1) := by decide +kernel
theorem dX10_running_13 : decode cX10_running 13 = .ok (.invokevirtual 250, 3) := by decide +kernel
theorem dX10_running_16 : decode cX10_running 16 = .ok (.ireturn, 1) := by decide +kernel
theorem dX10_running_17 : decode cX10_running 17 = .ok (.iconst 0, 1) := by decide +kernel
theorem dX10_running_18 : decode cX10_running 18 = .ok (.istore_n 1, 1) := by decide +kernel
theorem dX10_running_19 : decode cX10_running 19 = .ok (.iconst 0, 1) := by decide +kernel
theorem dX10_running_20 : decode cX10_running 20 = .ok (.istore_n 2, 1) := by decide +kernel
theorem dX10_running_21 : decode cX10_running 21 = .ok (.iload_n 2, 1) := by decide +kernel
theorem dX10_running_22 : decode cX10_running 22 = .ok (.bipush 6, 2) := by decide +kernel
theorem dX10_running_24 : decode cX10_running 24 = .ok (.if_icmp .ge 31, 3) := by decide +kernel
theorem dX10_running_27 : decode cX10_running 27 = .ok (.iload_n 1, 1) := by decide +kernel
theorem dX10_running_28 : decode cX10_running 28 = .ok (.aload_n 0, 1) := by decide +kernel
theorem dX10_running_29 : decode cX10_running 29 = .ok (.aload_n 0, 1) := by decide +kernel
theorem dX10_running_30 : decode cX10_running 30 = .ok (.getfield 38, 3) := by decide +kernel
theorem dX10_running_33 : decode cX10_running 33 = .ok (.iload_n 2, 1) := by decide +kernel
theorem dX10_running_34 : decode cX10_running 34 = .ok (.invokevirtual 116, 3) := by decide +kernel
theorem dX10_running_37 : decode cX10_running 37 = .ok (.ifCond .eq 9, 3) := by decide +kernel
theorem dX10_running_40 : decode cX10_running 40 = .ok (.iconst 1, 1) := by decide +kernel
theorem dX10_running_41 : decode cX10_running 41 = .ok (.iload_n 2, 1) := by decide +kernel
theorem dX10_running_42 : decode cX10_running 42 = .ok (.ishl, 1) := by decide +kernel
theorem dX10_running_43 : decode cX10_running 43 = .ok (.goto 4, 3) := by decide +kernel
theorem dX10_running_46 : decode cX10_running 46 = .ok (.iconst 0, 1) := by decide +kernel
theorem dX10_running_47 : decode cX10_running 47 = .ok (.ior, 1) := by decide +kernel
theorem dX10_running_48 : decode cX10_running 48 = .ok (.istore_n 1, 1) := by decide +kernel
theorem dX10_running_49 : decode cX10_running 49 = .ok (.iinc 2 1, 3) := by decide +kernel
theorem dX10_running_52 : decode cX10_running 52 = .ok (.goto (-31), 3) := by decide +kernel
theorem dX10_running_55 : decode cX10_running 55 = .ok (.iload_n 1, 1) := by decide +kernel
theorem dX10_running_56 : decode cX10_running 56 = .ok (.ireturn, 1) := by decide +kernel
theorem dX10_counts_0 : decode cX10_counts 0 = .ok (.aload_n 0, 1) := by decide +kernel
theorem dX10_counts_1 : decode cX10_counts 1 = .ok (.invokevirtual 247, 3) := by decide +kernel
theorem dX10_counts_4 : decode cX10_counts 4 = .ok (.aload_n 0, 1) := by decide +kernel
theorem dX10_counts_5 : decode cX10_counts 5 = .ok (.aload_n 0, 1) := by decide +kernel
theorem dX10_counts_6 : decode cX10_counts 6 = .ok (.iload_n 1, 1) := by decide +kernel
theorem dX10_counts_7 : decode cX10_counts 7 = .ok (.invokevirtual 355, 3) := by decide +kernel
theorem dX10_counts_10 : decode cX10_counts 10 = .ok (.aload_n 0, 1) := by decide +kernel
theorem dX10_counts_11 : decode cX10_counts 11 = .ok (.iload_n 2, 1) := by decide +kernel
theorem dX10_counts_12 : decode cX10_counts 12 = .ok (.invokevirtual 345, 3) := by decide +kernel
theorem dX10_counts_15 : decode cX10_counts 15 = .ok (.invokevirtual 348, 3) := by decide +kernel
theorem dX10_counts_18 : decode cX10_counts 18 = .ok (.istore_n 3, 1) := by decide +kernel
theorem dX10_counts_19 : decode cX10_counts 19 = .ok (.iload_n 3, 1) := by decide +kernel
theorem dX10_counts_20 : decode cX10_counts 20 = .ok (.ifCond .eq 9, 3) := by decide +kernel
theorem dX10_counts_23 : decode cX10_counts 23 = .ok (.aload_n 0, 1) := by decide +kernel
theorem dX10_counts_24 : decode cX10_counts 24 = .ok (.iload_n 3, 1) := by decide +kernel
theorem dX10_counts_25 : decode cX10_counts 25 = .ok (.invokevirtual 250, 3) := by decide +kernel
theorem dX10_counts_28 : decode cX10_counts 28 = .ok (.ireturn, 1) := by decide +kernel
theorem dX10_counts_29 : decode cX10_counts 29 = .ok (.aload_n 0, 1) := by decide +kernel
theorem dX10_counts_30 : decode cX10_counts 30 = .ok (.aload_n 0, 1) := by decide +kernel
theorem dX10_counts_31 : decode cX10_counts 31 = .ok (.getfield 38, 3) := by decide +kernel
theorem dX10_counts_34 : decode cX10_counts 34 = .ok (.iload_n 1, 1) := by decide +kernel
theorem dX10_counts_35 : decode cX10_counts 35 = .ok (.iload_n 2, 1) := by decide +kernel
theorem dX10_counts_36 : decode cX10_counts 36 = .ok (.invokevirtual 96, 3) := by decide +kernel
theorem dX10_counts_39 : decode cX10_counts 39 = .ok (.ifCond .eq 7, 3) := by decide +kernel
theorem dX10_counts_42 : decode cX10_counts 42 = .ok (.iconst 1, 1) := by decide +kernel
theorem dX10_counts_43 : decode cX10_counts 43 = .ok (.goto 4, 3) := by decide +kernel
theorem dX10_counts_46 : decode cX10_counts 46 = .ok (.iconst 0, 1) := by decide +kernel
theorem dX10_counts_47 : decode cX10_counts 47 = .ok (.ireturn, 1) := by decide +kernel
theorem dX10_holdsBack_0 : decode cX10_holdsBack 0 = .ok (.aload_n 0, 1) := by decide +kernel
theorem dX10_holdsBack_1 : decode cX10_holdsBack 1 = .ok (.invokevirtual 247, 3) := by decide +kernel
theorem dX10_holdsBack_4 : decode cX10_holdsBack 4 = .ok (.aload_n 0, 1) := by decide +kernel
theorem dX10_holdsBack_5 : decode cX10_holdsBack 5 = .ok (.getfield 260, 3) := by decide +kernel
theorem dX10_holdsBack_8 : decode cX10_holdsBack 8 = .ok (.ifCond .ne 9, 3) := by decide +kernel
theorem dX10_holdsBack_11 : decode cX10_holdsBack 11 = .ok (.aload_n 0, 1) := by decide +kernel
theorem dX10_holdsBack_12 : decode cX10_holdsBack 12 = .ok (.iconst 1, 1) := by decide +kernel
theorem dX10_holdsBack_13 : decode cX10_holdsBack 13 = .ok (.invokevirtual 250, 3) := by decide +kernel
theorem dX10_holdsBack_16 : decode cX10_holdsBack 16 = .ok (.ireturn, 1) := by decide +kernel
theorem dX10_holdsBack_17 : decode cX10_holdsBack 17 = .ok (.bipush (-2), 2) := by decide +kernel
theorem dX10_holdsBack_19 : decode cX10_holdsBack 19 = .ok (.istore_n 1, 1) := by decide +kernel
theorem dX10_holdsBack_20 : decode cX10_holdsBack 20 = .ok (.iconst 0, 1) := by decide +kernel
theorem dX10_holdsBack_21 : decode cX10_holdsBack 21 = .ok (.istore_n 2, 1) := by decide +kernel
theorem dX10_holdsBack_22 : decode cX10_holdsBack 22 = .ok (.iload_n 2, 1) := by decide +kernel
theorem dX10_holdsBack_23 : decode cX10_holdsBack 23 = .ok (.bipush 6, 2) := by decide +kernel
theorem dX10_holdsBack_25 : decode cX10_holdsBack 25 = .ok (.if_icmp .ge 48, 3) := by decide +kernel
theorem dX10_holdsBack_28 : decode cX10_holdsBack 28 = .ok (.aload_n 0, 1) := by decide +kernel
theorem dX10_holdsBack_29 : decode cX10_holdsBack 29 = .ok (.aload_n 0, 1) := by decide +kernel
theorem dX10_holdsBack_30 : decode cX10_holdsBack 30 = .ok (.getfield 38, 3) := by decide +kernel
theorem dX10_holdsBack_33 : decode cX10_holdsBack 33 = .ok (.iload_n 2, 1) := by decide +kernel
theorem dX10_holdsBack_34 : decode cX10_holdsBack 34 = .ok (.invokevirtual 116, 3) := by decide +kernel
theorem dX10_holdsBack_37 : decode cX10_holdsBack 37 = .ok (.ifCond .eq 30, 3) := by decide +kernel
theorem dX10_holdsBack_40 : decode cX10_holdsBack 40 = .ok (.iload_n 1, 1) := by decide +kernel
theorem dX10_holdsBack_41 : decode cX10_holdsBack 41 = .ok (.ifCond .lt 24, 3) := by decide +kernel
theorem dX10_holdsBack_44 : decode cX10_holdsBack 44 = .ok (.aload_n 0, 1) := by decide +kernel
theorem dX10_holdsBack_45 : decode cX10_holdsBack 45 = .ok (.aload_n 0, 1) := by decide +kernel
theorem dX10_holdsBack_46 : decode cX10_holdsBack 46 = .ok (.getfield 38, 3) := by decide +kernel
theorem dX10_holdsBack_49 : decode cX10_holdsBack 49 = .ok (.iload_n 2, 1) := by decide +kernel
theorem dX10_holdsBack_50 : decode cX10_holdsBack 50 = .ok (.invokevirtual 120, 3) := by decide +kernel
theorem dX10_holdsBack_53 : decode cX10_holdsBack 53 = .ok (.aload_n 0, 1) := by decide +kernel
theorem dX10_holdsBack_54 : decode cX10_holdsBack 54 = .ok (.aload_n 0, 1) := by decide +kernel
theorem dX10_holdsBack_55 : decode cX10_holdsBack 55 = .ok (.getfield 38, 3) := by decide +kernel
theorem dX10_holdsBack_58 : decode cX10_holdsBack 58 = .ok (.iload_n 1, 1) := by decide +kernel
theorem dX10_holdsBack_59 : decode cX10_holdsBack 59 = .ok (.invokevirtual 120, 3) := by decide +kernel
theorem dX10_holdsBack_62 : decode cX10_holdsBack 62 = .ok (.if_icmp .le 5, 3) := by decide +kernel
theorem dX10_holdsBack_65 : decode cX10_holdsBack 65 = .ok (.iload_n 2, 1) := by decide +kernel
theorem dX10_holdsBack_66 : decode cX10_holdsBack 66 = .ok (.istore_n 1, 1) := by decide +kernel
theorem dX10_holdsBack_67 : decode cX10_holdsBack 67 = .ok (.iinc 2 1, 3) := by decide +kernel
theorem dX10_holdsBack_70 : decode cX10_holdsBack 70 = .ok (.goto (-48), 3) := by decide +kernel
theorem dX10_holdsBack_73 : decode cX10_holdsBack 73 = .ok (.iload_n 1, 1) := by decide +kernel
theorem dX10_holdsBack_74 : decode cX10_holdsBack 74 = .ok (.ireturn, 1) := by decide +kernel
theorem dX10_deadOf_0 : decode cX10_deadOf 0 = .ok (.iconst 0, 1) := by decide +kernel
theorem dX10_deadOf_1 : decode cX10_deadOf 1 = .ok (.istore_n 2, 1) := by decide +kernel
theorem dX10_deadOf_2 : decode cX10_deadOf 2 = .ok (.iconst 0, 1) := by decide +kernel
theorem dX10_deadOf_3 : decode cX10_deadOf 3 = .ok (.istore_n 3, 1) := by decide +kernel
theorem dX10_deadOf_4 : decode cX10_deadOf 4 = .ok (.iload_n 3, 1) := by decide +kernel
theorem dX10_deadOf_5 : decode cX10_deadOf 5 = .ok (.bipush 48, 2) := by decide +kernel
theorem dX10_deadOf_7 : decode cX10_deadOf 7 = .ok (.if_icmp .ge 26, 3) := by decide +kernel
theorem dX10_deadOf_10 : decode cX10_deadOf 10 = .ok (.iload_n 2, 1) := by decide +kernel
theorem dX10_deadOf_11 : decode cX10_deadOf 11 = .ok (.aload_n 0, 1) := by decide +kernel
theorem dX10_deadOf_12 : decode cX10_deadOf 12 = .ok (.aload_n 1, 1) := by decide +kernel
theorem dX10_deadOf_13 : decode cX10_deadOf 13 = .ok (.iload_n 3, 1) := by decide +kernel
theorem dX10_deadOf_14 : decode cX10_deadOf 14 = .ok (.invokevirtual 145, 3) := by decide +kernel
theorem dX10_deadOf_17 : decode cX10_deadOf 17 = .ok (.ifCond .eq 7, 3) := by decide +kernel
theorem dX10_deadOf_20 : decode cX10_deadOf 20 = .ok (.iconst 1, 1) := by decide +kernel
theorem dX10_deadOf_21 : decode cX10_deadOf 21 = .ok (.goto 4, 3) := by decide +kernel
theorem dX10_deadOf_24 : decode cX10_deadOf 24 = .ok (.iconst 0, 1) := by decide +kernel
theorem dX10_deadOf_25 : decode cX10_deadOf 25 = .ok (.iadd, 1) := by decide +kernel
theorem dX10_deadOf_26 : decode cX10_deadOf 26 = .ok (.istore_n 2, 1) := by decide +kernel
theorem dX10_deadOf_27 : decode cX10_deadOf 27 = .ok (.iinc 3 1, 3) := by decide +kernel
theorem dX10_deadOf_30 : decode cX10_deadOf 30 = .ok (.goto (-26), 3) := by decide +kernel
theorem dX10_deadOf_33 : decode cX10_deadOf 33 = .ok (.iload_n 2, 1) := by decide +kernel
theorem dX10_deadOf_34 : decode cX10_deadOf 34 = .ok (.ireturn, 1) := by decide +kernel
theorem dX10_frees_0 : decode cX10_frees 0 = .ok (.aload_n 0, 1) := by decide +kernel
theorem dX10_frees_1 : decode cX10_frees 1 = .ok (.invokevirtual 247, 3) := by decide +kernel
theorem dX10_frees_4 : decode cX10_frees 4 = .ok (.aload_n 0, 1) := by decide +kernel
theorem dX10_frees_5 : decode cX10_frees 5 = .ok (.iload_n 1, 1) := by decide +kernel
theorem dX10_frees_6 : decode cX10_frees 6 = .ok (.invokevirtual 355, 3) := by decide +kernel
theorem dX10_frees_9 : decode cX10_frees 9 = .ok (.ifCond .ne 9, 3) := by decide +kernel
theorem dX10_frees_12 : decode cX10_frees 12 = .ok (.aload_n 0, 1) := by decide +kernel
theorem dX10_frees_13 : decode cX10_frees 13 = .ok (.iconst 1, 1) := by decide +kernel
theorem dX10_frees_14 : decode cX10_frees 14 = .ok (.invokevirtual 250, 3) := by decide +kernel
theorem dX10_frees_17 : decode cX10_frees 17 = .ok (.ireturn, 1) := by decide +kernel
theorem dX10_frees_18 : decode cX10_frees 18 = .ok (.aload_n 0, 1) := by decide +kernel
theorem dX10_frees_19 : decode cX10_frees 19 = .ok (.getfield 38, 3) := by decide +kernel
theorem dX10_frees_22 : decode cX10_frees 22 = .ok (.iconst 0, 1) := by decide +kernel
theorem dX10_frees_23 : decode cX10_frees 23 = .ok (.aload_n 0, 1) := by decide +kernel
theorem dX10_frees_24 : decode cX10_frees 24 = .ok (.getfield 41, 3) := by decide +kernel
theorem dX10_frees_27 : decode cX10_frees 27 = .ok (.iconst 0, 1) := by decide +kernel
theorem dX10_frees_28 : decode cX10_frees 28 = .ok (.sipush 325, 3) := by decide +kernel
theorem dX10_frees_31 : decode cX10_frees 31 = .ok (.invokestatic 256, 3) := by decide +kernel
theorem dX10_frees_34 : decode cX10_frees 34 = .ok (.aload_n 0, 1) := by decide +kernel
theorem dX10_frees_35 : decode cX10_frees 35 = .ok (.aload_n 0, 1) := by decide +kernel
theorem dX10_frees_36 : decode cX10_frees 36 = .ok (.getfield 41, 3) := by decide +kernel
theorem dX10_frees_39 : decode cX10_frees 39 = .ok (.iload_n 1, 1) := by decide +kernel
theorem dX10_frees_40 : decode cX10_frees 40 = .ok (.iconst 3, 1) := by decide +kernel
theorem dX10_frees_41 : decode cX10_frees 41 = .ok (.invokevirtual 336, 3) := by decide +kernel
theorem dX10_frees_44 : decode cX10_frees 44 = .ok (.pop, 1) := by decide +kernel
theorem dX10_frees_45 : decode cX10_frees 45 = .ok (.aload_n 0, 1) := by decide +kernel
theorem dX10_frees_46 : decode cX10_frees 46 = .ok (.aload_n 0, 1) := by decide +kernel
theorem dX10_frees_47 : decode cX10_frees 47 = .ok (.getfield 41, 3) := by decide +kernel
theorem dX10_frees_50 : decode cX10_frees 50 = .ok (.invokevirtual 364, 3) := by decide +kernel
theorem dX10_frees_53 : decode cX10_frees 53 = .ok (.aload_n 0, 1) := by decide +kernel
theorem dX10_frees_54 : decode cX10_frees 54 = .ok (.aload_n 0, 1) := by decide +kernel
theorem dX10_frees_55 : decode cX10_frees 55 = .ok (.getfield 38, 3) := by decide +kernel
theorem dX10_frees_58 : decode cX10_frees 58 = .ok (.invokevirtual 364, 3) := by decide +kernel
theorem dX10_frees_61 : decode cX10_frees 61 = .ok (.isub, 1) := by decide +kernel
theorem dX10_frees_62 : decode cX10_frees 62 = .ok (.ireturn, 1) := by decide +kernel
theorem dX10_version_0 : decode cX10_version 0 = .ok (.aload_n 0, 1) := by decide +kernel
theorem dX10_version_1 : decode cX10_version 1 = .ok (.invokevirtual 247, 3) := by decide +kernel
theorem dX10_version_4 : decode cX10_version 4 = .ok (.aload_n 0, 1) := by decide +kernel
theorem dX10_version_5 : decode cX10_version 5 = .ok (.iload_n 1, 1) := by decide +kernel
theorem dX10_version_6 : decode cX10_version 6 = .ok (.invokevirtual 367, 3) := by decide +kernel
theorem dX10_version_9 : decode cX10_version 9 = .ok (.ifCond .eq 12, 3) := by decide +kernel
theorem dX10_version_12 : decode cX10_version 12 = .ok (.iload_n 2, 1) := by decide +kernel
theorem dX10_version_13 : decode cX10_version 13 = .ok (.iconst 0, 1) := by decide +kernel
theorem dX10_version_14 : decode cX10_version 14 = .ok (.iconst 5, 1) := by decide +kernel
theorem dX10_version_15 : decode cX10_version 15 = .ok (.invokestatic 81, 3) := by decide +kernel
theorem dX10_version_18 : decode cX10_version 18 = .ok (.ifCond .ne 9, 3) := by decide +kernel
theorem dX10_version_21 : decode cX10_version 21 = .ok (.aload_n 0, 1) := by decide +kernel
theorem dX10_version_22 : decode cX10_version 22 = .ok (.iconst 1, 1) := by decide +kernel
theorem dX10_version_23 : decode cX10_version 23 = .ok (.invokevirtual 250, 3) := by decide +kernel
theorem dX10_version_26 : decode cX10_version 26 = .ok (.ireturn, 1) := by decide +kernel
theorem dX10_version_27 : decode cX10_version 27 = .ok (.iload_n 2, 1) := by decide +kernel
theorem dX10_version_28 : decode cX10_version 28 = .ok (.tableswitch 96 0 4 #[36, 47, 57, 67, 78], 36) := by decide +kernel
theorem dX10_version_64 : decode cX10_version 64 = .ok (.aload_n 0, 1) := by decide +kernel
theorem dX10_version_65 : decode cX10_version 65 = .ok (.getfield 38, 3) := by decide +kernel
theorem dX10_version_68 : decode cX10_version 68 = .ok (.iconst 0, 1) := by decide +kernel
theorem dX10_version_69 : decode cX10_version 69 = .ok (.iload_n 1, 1) := by decide +kernel
theorem dX10_version_70 : decode cX10_version 70 = .ok (.iadd, 1) := by decide +kernel
theorem dX10_version_71 : decode cX10_version 71 = .ok (.iaload, 1) := by decide +kernel
theorem dX10_version_72 : decode cX10_version 72 = .ok (.iconst 1, 1) := by decide +kernel
theorem dX10_version_73 : decode cX10_version 73 = .ok (.isub, 1) := by decide +kernel
theorem dX10_version_74 : decode cX10_version 74 = .ok (.ireturn, 1) := by decide +kernel
theorem dX10_version_75 : decode cX10_version 75 = .ok (.aload_n 0, 1) := by decide +kernel
theorem dX10_version_76 : decode cX10_version 76 = .ok (.getfield 38, 3) := by decide +kernel
theorem dX10_version_79 : decode cX10_version 79 = .ok (.bipush 48, 2) := by decide +kernel
theorem dX10_version_81 : decode cX10_version 81 = .ok (.iload_n 1, 1) := by decide +kernel
theorem dX10_version_82 : decode cX10_version 82 = .ok (.iadd, 1) := by decide +kernel
theorem dX10_version_83 : decode cX10_version 83 = .ok (.iaload, 1) := by decide +kernel
theorem dX10_version_84 : decode cX10_version 84 = .ok (.ireturn, 1) := by decide +kernel
theorem dX10_version_85 : decode cX10_version 85 = .ok (.aload_n 0, 1) := by decide +kernel
theorem dX10_version_86 : decode cX10_version 86 = .ok (.getfield 38, 3) := by decide +kernel
theorem dX10_version_89 : decode cX10_version 89 = .ok (.bipush 96, 2) := by decide +kernel
theorem dX10_version_91 : decode cX10_version 91 = .ok (.iload_n 1, 1) := by decide +kernel
theorem dX10_version_92 : decode cX10_version 92 = .ok (.iadd, 1) := by decide +kernel
theorem dX10_version_93 : decode cX10_version 93 = .ok (.iaload, 1) := by decide +kernel
theorem dX10_version_94 : decode cX10_version 94 = .ok (.ireturn, 1) := by decide +kernel
theorem dX10_version_95 : decode cX10_version 95 = .ok (.aload_n 0, 1) := by decide +kernel
theorem dX10_version_96 : decode cX10_version 96 = .ok (.getfield 38, 3) := by decide +kernel
theorem dX10_version_99 : decode cX10_version 99 = .ok (.sipush 144, 3) := by decide +kernel
theorem dX10_version_102 : decode cX10_version 102 = .ok (.iload_n 1, 1) := by decide +kernel
theorem dX10_version_103 : decode cX10_version 103 = .ok (.iadd, 1) := by decide +kernel
theorem dX10_version_104 : decode cX10_version 104 = .ok (.iaload, 1) := by decide +kernel
theorem dX10_version_105 : decode cX10_version 105 = .ok (.ireturn, 1) := by decide +kernel
theorem dX10_version_106 : decode cX10_version 106 = .ok (.aload_n 0, 1) := by decide +kernel
theorem dX10_version_107 : decode cX10_version 107 = .ok (.aload_n 0, 1) := by decide +kernel
theorem dX10_version_108 : decode cX10_version 108 = .ok (.getfield 38, 3) := by decide +kernel
theorem dX10_version_111 : decode cX10_version 111 = .ok (.iload_n 1, 1) := by decide +kernel
theorem dX10_version_112 : decode cX10_version 112 = .ok (.invokevirtual 145, 3) := by decide +kernel
theorem dX10_version_115 : decode cX10_version 115 = .ok (.ifCond .eq 7, 3) := by decide +kernel
theorem dX10_version_118 : decode cX10_version 118 = .ok (.iconst 1, 1) := by decide +kernel
theorem dX10_version_119 : decode cX10_version 119 = .ok (.goto 4, 3) := by decide +kernel
theorem dX10_version_122 : decode cX10_version 122 = .ok (.iconst 0, 1) := by decide +kernel
theorem dX10_version_123 : decode cX10_version 123 = .ok (.ireturn, 1) := by decide +kernel
theorem dX10_version_124 : decode cX10_version 124 = .ok (.aload_n 0, 1) := by decide +kernel
theorem dX10_version_125 : decode cX10_version 125 = .ok (.aload_n 0, 1) := by decide +kernel
theorem dX10_version_126 : decode cX10_version 126 = .ok (.getfield 38, 3) := by decide +kernel
theorem dX10_version_129 : decode cX10_version 129 = .ok (.iload_n 1, 1) := by decide +kernel
theorem dX10_version_130 : decode cX10_version 130 = .ok (.invokevirtual 148, 3) := by decide +kernel
theorem dX10_version_133 : decode cX10_version 133 = .ok (.ifCond .eq 7, 3) := by decide +kernel
theorem dX10_version_136 : decode cX10_version 136 = .ok (.iconst 1, 1) := by decide +kernel
theorem dX10_version_137 : decode cX10_version 137 = .ok (.goto 4, 3) := by decide +kernel
theorem dX10_version_140 : decode cX10_version 140 = .ok (.iconst 0, 1) := by decide +kernel
theorem dX10_version_141 : decode cX10_version 141 = .ok (.ireturn, 1) := by decide +kernel
theorem dX10_chainOf_0 : decode cX10_chainOf 0 = .ok (.iconst 0, 1) := by decide +kernel
theorem dX10_chainOf_1 : decode cX10_chainOf 1 = .ok (.istore_n 3, 1) := by decide +kernel
theorem dX10_chainOf_2 : decode cX10_chainOf 2 = .ok (.iload_n 3, 1) := by decide +kernel
theorem dX10_chainOf_3 : decode cX10_chainOf 3 = .ok (.bipush 48, 2) := by decide +kernel
theorem dX10_chainOf_5 : decode cX10_chainOf 5 = .ok (.if_icmp .ge 102, 3) := by decide +kernel
theorem dX10_chainOf_8 : decode cX10_chainOf 8 = .ok (.aload_n 0, 1) := by decide +kernel
theorem dX10_chainOf_9 : decode cX10_chainOf 9 = .ok (.getfield 38, 3) := by decide +kernel
theorem dX10_chainOf_12 : decode cX10_chainOf 12 = .ok (.iconst 0, 1) := by decide +kernel
theorem dX10_chainOf_13 : decode cX10_chainOf 13 = .ok (.iload_n 3, 1) := by decide +kernel
theorem dX10_chainOf_14 : decode cX10_chainOf 14 = .ok (.iadd, 1) := by decide +kernel
theorem dX10_chainOf_15 : decode cX10_chainOf 15 = .ok (.iaload, 1) := by decide +kernel
theorem dX10_chainOf_16 : decode cX10_chainOf 16 = .ok (.iload_n 1, 1) := by decide +kernel
theorem dX10_chainOf_17 : decode cX10_chainOf 17 = .ok (.iconst 1, 1) := by decide +kernel
theorem dX10_chainOf_18 : decode cX10_chainOf 18 = .ok (.iadd, 1) := by decide +kernel
theorem dX10_chainOf_19 : decode cX10_chainOf 19 = .ok (.if_icmp .eq 6, 3) := by decide +kernel
theorem dX10_chainOf_22 : decode cX10_chainOf 22 = .ok (.goto 79, 3) := by decide +kernel
theorem dX10_chainOf_25 : decode cX10_chainOf 25 = .ok (.iconst 0, 1) := by decide +kernel
theorem dX10_chainOf_26 : decode cX10_chainOf 26 = .ok (.istore 4, 2) := by decide +kernel
theorem dX10_chainOf_28 : decode cX10_chainOf 28 = .ok (.iconst 0, 1) := by decide +kernel
theorem dX10_chainOf_29 : decode cX10_chainOf 29 = .ok (.istore 5, 2) := by decide +kernel
theorem dX10_chainOf_31 : decode cX10_chainOf 31 = .ok (.iload 5, 2) := by decide +kernel
theorem dX10_chainOf_33 : decode cX10_chainOf 33 = .ok (.bipush 48, 2) := by decide +kernel
theorem dX10_chainOf_35 : decode cX10_chainOf 35 = .ok (.if_icmp .ge 58, 3) := by decide +kernel
theorem dX10_chainOf_38 : decode cX10_chainOf 38 = .ok (.iload 4, 2) := by decide +kernel
theorem dX10_chainOf_40 : decode cX10_chainOf 40 = .ok (.aload_n 0, 1) := by decide +kernel
theorem dX10_chainOf_41 : decode cX10_chainOf 41 = .ok (.getfield 38, 3) := by decide +kernel
theorem dX10_chainOf_44 : decode cX10_chainOf 44 = .ok (.iconst 0, 1) := by decide +kernel
theorem dX10_chainOf_45 : decode cX10_chainOf 45 = .ok (.iload 5, 2) := by decide +kernel
theorem dX10_chainOf_47 : decode cX10_chainOf 47 = .ok (.iadd, 1) := by decide +kernel
theorem dX10_chainOf_48 : decode cX10_chainOf 48 = .ok (.iaload, 1) := by decide +kernel
theorem dX10_chainOf_49 : decode cX10_chainOf 49 = .ok (.iload_n 1, 1) := by decide +kernel
theorem dX10_chainOf_50 : decode cX10_chainOf 50 = .ok (.iconst 1, 1) := by decide +kernel
theorem dX10_chainOf_51 : decode cX10_chainOf 51 = .ok (.iadd, 1) := by decide +kernel
theorem dX10_chainOf_52 : decode cX10_chainOf 52 = .ok (.if_icmp .ne 31, 3) := by decide +kernel
theorem dX10_chainOf_55 : decode cX10_chainOf 55 = .ok (.aload_n 0, 1) := by decide +kernel
theorem dX10_chainOf_56 : decode cX10_chainOf 56 = .ok (.getfield 38, 3) := by decide +kernel
theorem dX10_chainOf_59 : decode cX10_chainOf 59 = .ok (.sipush 192, 3) := by decide +kernel
theorem dX10_chainOf_62 : decode cX10_chainOf 62 = .ok (.iload 5, 2) := by decide +kernel
theorem dX10_chainOf_64 : decode cX10_chainOf 64 = .ok (.iadd, 1) := by decide +kernel
theorem dX10_chainOf_65 : decode cX10_chainOf 65 = .ok (.iaload, 1) := by decide +kernel
theorem dX10_chainOf_66 : decode cX10_chainOf 66 = .ok (.aload_n 0, 1) := by decide +kernel
theorem dX10_chainOf_67 : decode cX10_chainOf 67 = .ok (.getfield 38, 3) := by decide +kernel
theorem dX10_chainOf_70 : decode cX10_chainOf 70 = .ok (.sipush 192, 3) := by decide +kernel
theorem dX10_chainOf_73 : decode cX10_chainOf 73 = .ok (.iload_n 3, 1) := by decide +kernel
theorem dX10_chainOf_74 : decode cX10_chainOf 74 = .ok (.iadd, 1) := by decide +kernel
theorem dX10_chainOf_75 : decode cX10_chainOf 75 = .ok (.iaload, 1) := by decide +kernel
theorem dX10_chainOf_76 : decode cX10_chainOf 76 = .ok (.if_icmp .ge 7, 3) := by decide +kernel
theorem dX10_chainOf_79 : decode cX10_chainOf 79 = .ok (.iconst 1, 1) := by decide +kernel
theorem dX10_chainOf_80 : decode cX10_chainOf 80 = .ok (.goto 4, 3) := by decide +kernel
theorem dX10_chainOf_83 : decode cX10_chainOf 83 = .ok (.iconst 0, 1) := by decide +kernel
theorem dX10_chainOf_84 : decode cX10_chainOf 84 = .ok (.iadd, 1) := by decide +kernel
theorem dX10_chainOf_85 : decode cX10_chainOf 85 = .ok (.istore 4, 2) := by decide +kernel
theorem dX10_chainOf_87 : decode cX10_chainOf 87 = .ok (.iinc 5 1, 3) := by decide +kernel
theorem dX10_chainOf_90 : decode cX10_chainOf 90 = .ok (.goto (-59), 3) := by decide +kernel
theorem dX10_chainOf_93 : decode cX10_chainOf 93 = .ok (.iload 4, 2) := by decide +kernel
theorem dX10_chainOf_95 : decode cX10_chainOf 95 = .ok (.iload_n 2, 1) := by decide +kernel
theorem dX10_chainOf_96 : decode cX10_chainOf 96 = .ok (.if_icmp .ne 5, 3) := by decide +kernel
theorem dX10_chainOf_99 : decode cX10_chainOf 99 = .ok (.iload_n 3, 1) := by decide +kernel
theorem dX10_chainOf_100 : decode cX10_chainOf 100 = .ok (.ireturn, 1) := by decide +kernel
theorem dX10_chainOf_101 : decode cX10_chainOf 101 = .ok (.iinc 3 1, 3) := by decide +kernel
theorem dX10_chainOf_104 : decode cX10_chainOf 104 = .ok (.goto (-102), 3) := by decide +kernel
theorem dX10_chainOf_107 : decode cX10_chainOf 107 = .ok (.bipush (-2), 2) := by decide +kernel
theorem dX10_chainOf_109 : decode cX10_chainOf 109 = .ok (.ireturn, 1) := by decide +kernel
theorem dX10_chain_0 : decode cX10_chain 0 = .ok (.aload_n 0, 1) := by decide +kernel
theorem dX10_chain_1 : decode cX10_chain 1 = .ok (.invokevirtual 247, 3) := by decide +kernel
theorem dX10_chain_4 : decode cX10_chain 4 = .ok (.aload_n 0, 1) := by decide +kernel
theorem dX10_chain_5 : decode cX10_chain 5 = .ok (.iload_n 1, 1) := by decide +kernel
theorem dX10_chain_6 : decode cX10_chain 6 = .ok (.invokevirtual 370, 3) := by decide +kernel
theorem dX10_chain_9 : decode cX10_chain 9 = .ok (.ifCond .ne 9, 3) := by decide +kernel
theorem dX10_chain_12 : decode cX10_chain 12 = .ok (.aload_n 0, 1) := by decide +kernel
theorem dX10_chain_13 : decode cX10_chain 13 = .ok (.iconst 1, 1) := by decide +kernel
theorem dX10_chain_14 : decode cX10_chain 14 = .ok (.invokevirtual 250, 3) := by decide +kernel
theorem dX10_chain_17 : decode cX10_chain 17 = .ok (.ireturn, 1) := by decide +kernel
theorem dX10_chain_18 : decode cX10_chain 18 = .ok (.iconst 0, 1) := by decide +kernel
theorem dX10_chain_19 : decode cX10_chain 19 = .ok (.istore_n 2, 1) := by decide +kernel
theorem dX10_chain_20 : decode cX10_chain 20 = .ok (.iconst 0, 1) := by decide +kernel
theorem dX10_chain_21 : decode cX10_chain 21 = .ok (.istore_n 3, 1) := by decide +kernel
theorem dX10_chain_22 : decode cX10_chain 22 = .ok (.iload_n 3, 1) := by decide +kernel
theorem dX10_chain_23 : decode cX10_chain 23 = .ok (.bipush 48, 2) := by decide +kernel
theorem dX10_chain_25 : decode cX10_chain 25 = .ok (.if_icmp .ge 31, 3) := by decide +kernel
theorem dX10_chain_28 : decode cX10_chain 28 = .ok (.iload_n 2, 1) := by decide +kernel
theorem dX10_chain_29 : decode cX10_chain 29 = .ok (.aload_n 0, 1) := by decide +kernel
theorem dX10_chain_30 : decode cX10_chain 30 = .ok (.getfield 38, 3) := by decide +kernel
theorem dX10_chain_33 : decode cX10_chain 33 = .ok (.iconst 0, 1) := by decide +kernel
theorem dX10_chain_34 : decode cX10_chain 34 = .ok (.iload_n 3, 1) := by decide +kernel
theorem dX10_chain_35 : decode cX10_chain 35 = .ok (.iadd, 1) := by decide +kernel
theorem dX10_chain_36 : decode cX10_chain 36 = .ok (.iaload, 1) := by decide +kernel
theorem dX10_chain_37 : decode cX10_chain 37 = .ok (.iload_n 1, 1) := by decide +kernel
theorem dX10_chain_38 : decode cX10_chain 38 = .ok (.iconst 1, 1) := by decide +kernel
theorem dX10_chain_39 : decode cX10_chain 39 = .ok (.iadd, 1) := by decide +kernel
theorem dX10_chain_40 : decode cX10_chain 40 = .ok (.if_icmp .ne 7, 3) := by decide +kernel
theorem dX10_chain_43 : decode cX10_chain 43 = .ok (.iconst 1, 1) := by decide +kernel
theorem dX10_chain_44 : decode cX10_chain 44 = .ok (.goto 4, 3) := by decide +kernel
theorem dX10_chain_47 : decode cX10_chain 47 = .ok (.iconst 0, 1) := by decide +kernel
theorem dX10_chain_48 : decode cX10_chain 48 = .ok (.iadd, 1) := by decide +kernel
theorem dX10_chain_49 : decode cX10_chain 49 = .ok (.istore_n 2, 1) := by decide +kernel
theorem dX10_chain_50 : decode cX10_chain 50 = .ok (.iinc 3 1, 3) := by decide +kernel
theorem dX10_chain_53 : decode cX10_chain 53 = .ok (.goto (-31), 3) := by decide +kernel
theorem dX10_chain_56 : decode cX10_chain 56 = .ok (.iload_n 2, 1) := by decide +kernel
theorem dX10_chain_57 : decode cX10_chain 57 = .ok (.ireturn, 1) := by decide +kernel
theorem dX10_chainAt_0 : decode cX10_chainAt 0 = .ok (.aload_n 0, 1) := by decide +kernel
theorem dX10_chainAt_1 : decode cX10_chainAt 1 = .ok (.invokevirtual 247, 3) := by decide +kernel
theorem dX10_chainAt_4 : decode cX10_chainAt 4 = .ok (.aload_n 0, 1) := by decide +kernel
theorem dX10_chainAt_5 : decode cX10_chainAt 5 = .ok (.iload_n 1, 1) := by decide +kernel
theorem dX10_chainAt_6 : decode cX10_chainAt 6 = .ok (.invokevirtual 370, 3) := by decide +kernel
theorem dX10_chainAt_9 : decode cX10_chainAt 9 = .ok (.ifCond .eq 12, 3) := by decide +kernel
theorem dX10_chainAt_12 : decode cX10_chainAt 12 = .ok (.aload_n 0, 1) := by decide +kernel
theorem dX10_chainAt_13 : decode cX10_chainAt 13 = .ok (.iload_n 1, 1) := by decide +kernel
theorem dX10_chainAt_14 : decode cX10_chainAt 14 = .ok (.iload_n 2, 1) := by decide +kernel
theorem dX10_chainAt_15 : decode cX10_chainAt 15 = .ok (.invokevirtual 373, 3) := by decide +kernel
theorem dX10_chainAt_18 : decode cX10_chainAt 18 = .ok (.goto 5, 3) := by decide +kernel
theorem dX10_chainAt_21 : decode cX10_chainAt 21 = .ok (.bipush (-2), 2) := by decide +kernel
theorem dX10_chainAt_23 : decode cX10_chainAt 23 = .ok (.istore_n 3, 1) := by decide +kernel
theorem dX10_chainAt_24 : decode cX10_chainAt 24 = .ok (.iload_n 3, 1) := by decide +kernel
theorem dX10_chainAt_25 : decode cX10_chainAt 25 = .ok (.ifCond .ge 11, 3) := by decide +kernel
theorem dX10_chainAt_28 : decode cX10_chainAt 28 = .ok (.aload_n 0, 1) := by decide +kernel
theorem dX10_chainAt_29 : decode cX10_chainAt 29 = .ok (.iconst 1, 1) := by decide +kernel
theorem dX10_chainAt_30 : decode cX10_chainAt 30 = .ok (.invokevirtual 250, 3) := by decide +kernel
theorem dX10_chainAt_33 : decode cX10_chainAt 33 = .ok (.goto 4, 3) := by decide +kernel
theorem dX10_chainAt_36 : decode cX10_chainAt 36 = .ok (.iload_n 3, 1) := by decide +kernel
theorem dX10_chainAt_37 : decode cX10_chainAt 37 = .ok (.ireturn, 1) := by decide +kernel
theorem dX10_seenBy_0 : decode cX10_seenBy 0 = .ok (.aload_n 0, 1) := by decide +kernel
theorem dX10_seenBy_1 : decode cX10_seenBy 1 = .ok (.invokevirtual 247, 3) := by decide +kernel
theorem dX10_seenBy_4 : decode cX10_seenBy 4 = .ok (.aload_n 0, 1) := by decide +kernel
theorem dX10_seenBy_5 : decode cX10_seenBy 5 = .ok (.iload_n 1, 1) := by decide +kernel
theorem dX10_seenBy_6 : decode cX10_seenBy 6 = .ok (.invokevirtual 367, 3) := by decide +kernel
theorem dX10_seenBy_9 : decode cX10_seenBy 9 = .ok (.ifCond .ne 9, 3) := by decide +kernel
theorem dX10_seenBy_12 : decode cX10_seenBy 12 = .ok (.aload_n 0, 1) := by decide +kernel
theorem dX10_seenBy_13 : decode cX10_seenBy 13 = .ok (.iconst 1, 1) := by decide +kernel
theorem dX10_seenBy_14 : decode cX10_seenBy 14 = .ok (.invokevirtual 250, 3) := by decide +kernel
theorem dX10_seenBy_17 : decode cX10_seenBy 17 = .ok (.ireturn, 1) := by decide +kernel
theorem dX10_seenBy_18 : decode cX10_seenBy 18 = .ok (.iconst 0, 1) := by decide +kernel
theorem dX10_seenBy_19 : decode cX10_seenBy 19 = .ok (.istore_n 2, 1) := by decide +kernel
theorem dX10_seenBy_20 : decode cX10_seenBy 20 = .ok (.iconst 0, 1) := by decide +kernel
theorem dX10_seenBy_21 : decode cX10_seenBy 21 = .ok (.istore_n 3, 1) := by decide +kernel
theorem dX10_seenBy_22 : decode cX10_seenBy 22 = .ok (.iload_n 3, 1) := by decide +kernel
theorem dX10_seenBy_23 : decode cX10_seenBy 23 = .ok (.bipush 6, 2) := by decide +kernel
theorem dX10_seenBy_25 : decode cX10_seenBy 25 = .ok (.if_icmp .ge 44, 3) := by decide +kernel
theorem dX10_seenBy_28 : decode cX10_seenBy 28 = .ok (.iload_n 2, 1) := by decide +kernel
theorem dX10_seenBy_29 : decode cX10_seenBy 29 = .ok (.aload_n 0, 1) := by decide +kernel
theorem dX10_seenBy_30 : decode cX10_seenBy 30 = .ok (.aload_n 0, 1) := by decide +kernel
theorem dX10_seenBy_31 : decode cX10_seenBy 31 = .ok (.getfield 38, 3) := by decide +kernel
theorem dX10_seenBy_34 : decode cX10_seenBy 34 = .ok (.iload_n 3, 1) := by decide +kernel
theorem dX10_seenBy_35 : decode cX10_seenBy 35 = .ok (.invokevirtual 116, 3) := by decide +kernel
theorem dX10_seenBy_38 : decode cX10_seenBy 38 = .ok (.ifCond .eq 22, 3) := by decide +kernel
theorem dX10_seenBy_41 : decode cX10_seenBy 41 = .ok (.aload_n 0, 1) := by decide +kernel
theorem dX10_seenBy_42 : decode cX10_seenBy 42 = .ok (.aload_n 0, 1) := by decide +kernel
theorem dX10_seenBy_43 : decode cX10_seenBy 43 = .ok (.getfield 38, 3) := by decide +kernel
theorem dX10_seenBy_46 : decode cX10_seenBy 46 = .ok (.iload_n 3, 1) := by decide +kernel
theorem dX10_seenBy_47 : decode cX10_seenBy 47 = .ok (.iload_n 1, 1) := by decide +kernel
theorem dX10_seenBy_48 : decode cX10_seenBy 48 = .ok (.invokevirtual 99, 3) := by decide +kernel
theorem dX10_seenBy_51 : decode cX10_seenBy 51 = .ok (.ifCond .eq 9, 3) := by decide +kernel
theorem dX10_seenBy_54 : decode cX10_seenBy 54 = .ok (.iconst 1, 1) := by decide +kernel
theorem dX10_seenBy_55 : decode cX10_seenBy 55 = .ok (.iload_n 3, 1) := by decide +kernel
theorem dX10_seenBy_56 : decode cX10_seenBy 56 = .ok (.ishl, 1) := by decide +kernel
theorem dX10_seenBy_57 : decode cX10_seenBy 57 = .ok (.goto 4, 3) := by decide +kernel
theorem dX10_seenBy_60 : decode cX10_seenBy 60 = .ok (.iconst 0, 1) := by decide +kernel
theorem dX10_seenBy_61 : decode cX10_seenBy 61 = .ok (.ior, 1) := by decide +kernel
theorem dX10_seenBy_62 : decode cX10_seenBy 62 = .ok (.istore_n 2, 1) := by decide +kernel
theorem dX10_seenBy_63 : decode cX10_seenBy 63 = .ok (.iinc 3 1, 3) := by decide +kernel
theorem dX10_seenBy_66 : decode cX10_seenBy 66 = .ok (.goto (-44), 3) := by decide +kernel
theorem dX10_seenBy_69 : decode cX10_seenBy 69 = .ok (.iload_n 2, 1) := by decide +kernel
theorem dX10_seenBy_70 : decode cX10_seenBy 70 = .ok (.ireturn, 1) := by decide +kernel
theorem dX10_dead_0 : decode cX10_dead 0 = .ok (.aload_n 0, 1) := by decide +kernel
theorem dX10_dead_1 : decode cX10_dead 1 = .ok (.invokevirtual 247, 3) := by decide +kernel
theorem dX10_dead_4 : decode cX10_dead 4 = .ok (.aload_n 0, 1) := by decide +kernel
theorem dX10_dead_5 : decode cX10_dead 5 = .ok (.getfield 260, 3) := by decide +kernel
theorem dX10_dead_8 : decode cX10_dead 8 = .ok (.ifCond .eq 14, 3) := by decide +kernel
theorem dX10_dead_11 : decode cX10_dead 11 = .ok (.aload_n 0, 1) := by decide +kernel
theorem dX10_dead_12 : decode cX10_dead 12 = .ok (.aload_n 0, 1) := by decide +kernel
theorem dX10_dead_13 : decode cX10_dead 13 = .ok (.getfield 38, 3) := by decide +kernel
theorem dX10_dead_16 : decode cX10_dead 16 = .ok (.invokevirtual 364, 3) := by decide +kernel
theorem dX10_dead_19 : decode cX10_dead 19 = .ok (.goto 8, 3) := by decide +kernel
theorem dX10_dead_22 : decode cX10_dead 22 = .ok (.aload_n 0, 1) := by decide +kernel
theorem dX10_dead_23 : decode cX10_dead 23 = .ok (.iconst 1, 1) := by decide +kernel
theorem dX10_dead_24 : decode cX10_dead 24 = .ok (.invokevirtual 250, 3) := by decide +kernel
theorem dX10_dead_27 : decode cX10_dead 27 = .ok (.ireturn, 1) := by decide +kernel
theorem dX10_freezes_0 : decode cX10_freezes 0 = .ok (.aload_n 0, 1) := by decide +kernel
theorem dX10_freezes_1 : decode cX10_freezes 1 = .ok (.invokevirtual 247, 3) := by decide +kernel
theorem dX10_freezes_4 : decode cX10_freezes 4 = .ok (.aload_n 0, 1) := by decide +kernel
theorem dX10_freezes_5 : decode cX10_freezes 5 = .ok (.getfield 260, 3) := by decide +kernel
theorem dX10_freezes_8 : decode cX10_freezes 8 = .ok (.ifCond .ne 9, 3) := by decide +kernel
theorem dX10_freezes_11 : decode cX10_freezes 11 = .ok (.aload_n 0, 1) := by decide +kernel
theorem dX10_freezes_12 : decode cX10_freezes 12 = .ok (.iconst 1, 1) := by decide +kernel
theorem dX10_freezes_13 : decode cX10_freezes 13 = .ok (.invokevirtual 250, 3) := by decide +kernel
theorem dX10_freezes_16 : decode cX10_freezes 16 = .ok (.ireturn, 1) := by decide +kernel
theorem dX10_freezes_17 : decode cX10_freezes 17 = .ok (.iconst 0, 1) := by decide +kernel
theorem dX10_freezes_18 : decode cX10_freezes 18 = .ok (.istore_n 1, 1) := by decide +kernel
theorem dX10_freezes_19 : decode cX10_freezes 19 = .ok (.iconst 0, 1) := by decide +kernel
theorem dX10_freezes_20 : decode cX10_freezes 20 = .ok (.istore_n 2, 1) := by decide +kernel
theorem dX10_freezes_21 : decode cX10_freezes 21 = .ok (.iload_n 2, 1) := by decide +kernel
theorem dX10_freezes_22 : decode cX10_freezes 22 = .ok (.bipush 48, 2) := by decide +kernel
theorem dX10_freezes_24 : decode cX10_freezes 24 = .ok (.if_icmp .ge 41, 3) := by decide +kernel
theorem dX10_freezes_27 : decode cX10_freezes 27 = .ok (.iload_n 1, 1) := by decide +kernel
theorem dX10_freezes_28 : decode cX10_freezes 28 = .ok (.aload_n 0, 1) := by decide +kernel
theorem dX10_freezes_29 : decode cX10_freezes 29 = .ok (.aload_n 0, 1) := by decide +kernel
theorem dX10_freezes_30 : decode cX10_freezes 30 = .ok (.getfield 38, 3) := by decide +kernel
theorem dX10_freezes_33 : decode cX10_freezes 33 = .ok (.iload_n 2, 1) := by decide +kernel
theorem dX10_freezes_34 : decode cX10_freezes 34 = .ok (.invokevirtual 148, 3) := by decide +kernel
theorem dX10_freezes_37 : decode cX10_freezes 37 = .ok (.ifCond .ne 15, 3) := by decide +kernel
theorem dX10_freezes_40 : decode cX10_freezes 40 = .ok (.aload_n 0, 1) := by decide +kernel
theorem dX10_freezes_41 : decode cX10_freezes 41 = .ok (.aload_n 0, 1) := by decide +kernel
theorem dX10_freezes_42 : decode cX10_freezes 42 = .ok (.getfield 38, 3) := by decide +kernel
theorem dX10_freezes_45 : decode cX10_freezes 45 = .ok (.iload_n 2, 1) := by decide +kernel
theorem dX10_freezes_46 : decode cX10_freezes 46 = .ok (.invokevirtual 151, 3) := by decide +kernel
theorem dX10_freezes_49 : decode cX10_freezes 49 = .ok (.ifCond .eq 7, 3) := by decide +kernel
theorem dX10_freezes_52 : decode cX10_freezes 52 = .ok (.iconst 1, 1) := by decide +kernel
theorem dX10_freezes_53 : decode cX10_freezes 53 = .ok (.goto 4, 3) := by decide +kernel
theorem dX10_freezes_56 : decode cX10_freezes 56 = .ok (.iconst 0, 1) := by decide +kernel
theorem dX10_freezes_57 : decode cX10_freezes 57 = .ok (.iadd, 1) := by decide +kernel
theorem dX10_freezes_58 : decode cX10_freezes 58 = .ok (.istore_n 1, 1) := by decide +kernel
theorem dX10_freezes_59 : decode cX10_freezes 59 = .ok (.iinc 2 1, 3) := by decide +kernel
theorem dX10_freezes_62 : decode cX10_freezes 62 = .ok (.goto (-41), 3) := by decide +kernel
theorem dX10_freezes_65 : decode cX10_freezes 65 = .ok (.iload_n 1, 1) := by decide +kernel
theorem dX10_freezes_66 : decode cX10_freezes 66 = .ok (.ireturn, 1) := by decide +kernel
theorem dX10_sees_0 : decode cX10_sees 0 = .ok (.aload_n 0, 1) := by decide +kernel
theorem dX10_sees_1 : decode cX10_sees 1 = .ok (.invokevirtual 247, 3) := by decide +kernel
theorem dX10_sees_4 : decode cX10_sees 4 = .ok (.aload_n 0, 1) := by decide +kernel
theorem dX10_sees_5 : decode cX10_sees 5 = .ok (.iload_n 1, 1) := by decide +kernel
theorem dX10_sees_6 : decode cX10_sees 6 = .ok (.invokevirtual 355, 3) := by decide +kernel
theorem dX10_sees_9 : decode cX10_sees 9 = .ok (.ifCond .eq 24, 3) := by decide +kernel
theorem dX10_sees_12 : decode cX10_sees 12 = .ok (.aload_n 0, 1) := by decide +kernel
theorem dX10_sees_13 : decode cX10_sees 13 = .ok (.iload_n 2, 1) := by decide +kernel
theorem dX10_sees_14 : decode cX10_sees 14 = .ok (.invokevirtual 370, 3) := by decide +kernel
theorem dX10_sees_17 : decode cX10_sees 17 = .ok (.ifCond .eq 16, 3) := by decide +kernel
theorem dX10_sees_20 : decode cX10_sees 20 = .ok (.aload_n 0, 1) := by decide +kernel
theorem dX10_sees_21 : decode cX10_sees 21 = .ok (.aload_n 0, 1) := by decide +kernel
theorem dX10_sees_22 : decode cX10_sees 22 = .ok (.getfield 38, 3) := by decide +kernel
theorem dX10_sees_25 : decode cX10_sees 25 = .ok (.iload_n 1, 1) := by decide +kernel
theorem dX10_sees_26 : decode cX10_sees 26 = .ok (.iload_n 2, 1) := by decide +kernel
theorem dX10_sees_27 : decode cX10_sees 27 = .ok (.invokevirtual 102, 3) := by decide +kernel
theorem dX10_sees_30 : decode cX10_sees 30 = .ok (.goto 8, 3) := by decide +kernel
theorem dX10_sees_33 : decode cX10_sees 33 = .ok (.aload_n 0, 1) := by decide +kernel
theorem dX10_sees_34 : decode cX10_sees 34 = .ok (.iconst 1, 1) := by decide +kernel
theorem dX10_sees_35 : decode cX10_sees 35 = .ok (.invokevirtual 250, 3) := by decide +kernel
theorem dX10_sees_38 : decode cX10_sees 38 = .ok (.ireturn, 1) := by decide +kernel
theorem dX10_valueOf_0 : decode cX10_valueOf 0 = .ok (.aload_n 0, 1) := by decide +kernel
theorem dX10_valueOf_1 : decode cX10_valueOf 1 = .ok (.aload_n 1, 1) := by decide +kernel
theorem dX10_valueOf_2 : decode cX10_valueOf 2 = .ok (.iload_n 2, 1) := by decide +kernel
theorem dX10_valueOf_3 : decode cX10_valueOf 3 = .ok (.iload_n 3, 1) := by decide +kernel
theorem dX10_valueOf_4 : decode cX10_valueOf 4 = .ok (.invokevirtual 102, 3) := by decide +kernel
theorem dX10_valueOf_7 : decode cX10_valueOf 7 = .ok (.istore 4, 2) := by decide +kernel
theorem dX10_valueOf_9 : decode cX10_valueOf 9 = .ok (.iload 4, 2) := by decide +kernel
theorem dX10_valueOf_11 : decode cX10_valueOf 11 = .ok (.ifCond .ge 8, 3) := by decide +kernel
theorem dX10_valueOf_14 : decode cX10_valueOf 14 = .ok (.bipush (-2), 2) := by decide +kernel
theorem dX10_valueOf_16 : decode cX10_valueOf 16 = .ok (.goto 10, 3) := by decide +kernel
theorem dX10_valueOf_19 : decode cX10_valueOf 19 = .ok (.aload_n 1, 1) := by decide +kernel
theorem dX10_valueOf_20 : decode cX10_valueOf 20 = .ok (.bipush 48, 2) := by decide +kernel
theorem dX10_valueOf_22 : decode cX10_valueOf 22 = .ok (.iload 4, 2) := by decide +kernel
theorem dX10_valueOf_24 : decode cX10_valueOf 24 = .ok (.iadd, 1) := by decide +kernel
theorem dX10_valueOf_25 : decode cX10_valueOf 25 = .ok (.iaload, 1) := by decide +kernel
theorem dX10_valueOf_26 : decode cX10_valueOf 26 = .ok (.ireturn, 1) := by decide +kernel
theorem dX10_read_0 : decode cX10_read 0 = .ok (.aload_n 0, 1) := by decide +kernel
theorem dX10_read_1 : decode cX10_read 1 = .ok (.invokevirtual 247, 3) := by decide +kernel
theorem dX10_read_4 : decode cX10_read 4 = .ok (.aload_n 0, 1) := by decide +kernel
theorem dX10_read_5 : decode cX10_read 5 = .ok (.iload_n 1, 1) := by decide +kernel
theorem dX10_read_6 : decode cX10_read 6 = .ok (.invokevirtual 355, 3) := by decide +kernel
theorem dX10_read_9 : decode cX10_read 9 = .ok (.ifCond .eq 24, 3) := by decide +kernel
theorem dX10_read_12 : decode cX10_read 12 = .ok (.aload_n 0, 1) := by decide +kernel
theorem dX10_read_13 : decode cX10_read 13 = .ok (.iload_n 2, 1) := by decide +kernel
theorem dX10_read_14 : decode cX10_read 14 = .ok (.invokevirtual 370, 3) := by decide +kernel
theorem dX10_read_17 : decode cX10_read 17 = .ok (.ifCond .eq 16, 3) := by decide +kernel
theorem dX10_read_20 : decode cX10_read 20 = .ok (.aload_n 0, 1) := by decide +kernel
theorem dX10_read_21 : decode cX10_read 21 = .ok (.aload_n 0, 1) := by decide +kernel
theorem dX10_read_22 : decode cX10_read 22 = .ok (.getfield 38, 3) := by decide +kernel
theorem dX10_read_25 : decode cX10_read 25 = .ok (.iload_n 1, 1) := by decide +kernel
theorem dX10_read_26 : decode cX10_read 26 = .ok (.iload_n 2, 1) := by decide +kernel
theorem dX10_read_27 : decode cX10_read 27 = .ok (.invokevirtual 376, 3) := by decide +kernel
theorem dX10_read_30 : decode cX10_read 30 = .ok (.goto 8, 3) := by decide +kernel
theorem dX10_read_33 : decode cX10_read 33 = .ok (.aload_n 0, 1) := by decide +kernel
theorem dX10_read_34 : decode cX10_read 34 = .ok (.iconst 1, 1) := by decide +kernel
theorem dX10_read_35 : decode cX10_read 35 = .ok (.invokevirtual 250, 3) := by decide +kernel
theorem dX10_read_38 : decode cX10_read 38 = .ok (.ireturn, 1) := by decide +kernel
theorem dX10_sumOf_0 : decode cX10_sumOf 0 = .ok (.iconst 0, 1) := by decide +kernel
theorem dX10_sumOf_1 : decode cX10_sumOf 1 = .ok (.istore_n 3, 1) := by decide +kernel
theorem dX10_sumOf_2 : decode cX10_sumOf 2 = .ok (.iconst 0, 1) := by decide +kernel
theorem dX10_sumOf_3 : decode cX10_sumOf 3 = .ok (.istore 4, 2) := by decide +kernel
theorem dX10_sumOf_5 : decode cX10_sumOf 5 = .ok (.iload 4, 2) := by decide +kernel
theorem dX10_sumOf_7 : decode cX10_sumOf 7 = .ok (.aload_n 0, 1) := by decide +kernel
theorem dX10_sumOf_8 : decode cX10_sumOf 8 = .ok (.getfield 20, 3) := by decide +kernel
theorem dX10_sumOf_11 : decode cX10_sumOf 11 = .ok (.iconst 1, 1) := by decide +kernel
theorem dX10_sumOf_12 : decode cX10_sumOf 12 = .ok (.iaload, 1) := by decide +kernel
