theorem dX4_init_0 : decode cX4_init 0 = .ok (.aload_n 0, 1) := by decide +kernel
theorem dX4_init_1 : decode cX4_init 1 = .ok (.invokespecial 3, 3) := by decide +kernel
theorem dX4_init_4 : decode cX4_init 4 = .ok (.aload_n 0, 1) := by decide +kernel
theorem dX4_init_5 : decode cX4_init 5 = .ok (.bipush 16, 2) := by decide +kernel
theorem dX4_init_7 : decode cX4_init 7 = .ok (.anewarray 9, 3) := by decide +kernel
theorem dX4_init_10 : decode cX4_init 10 = .ok (.putfield 11, 3) := by decide +kernel
theorem dX4_init_13 : decode cX4_init 13 = .ok (.aload_n 0, 1) := by decide +kernel
theorem dX4_init_14 : decode cX4_init 14 = .ok (.iconst 3, 1) := by decide +kernel
theorem dX4_init_15 : decode cX4_init 15 = .ok (.anewarray 9, 3) := by decide +kernel
theorem dX4_init_18 : decode cX4_init 18 = .ok (.putfield 17, 3) := by decide +kernel
theorem dX4_init_21 : decode cX4_init 21 = .ok (.iconst 0, 1) := by decide +kernel
theorem dX4_init_22 : decode cX4_init 22 = .ok (.istore_n 1, 1) := by decide +kernel
theorem dX4_init_23 : decode cX4_init 23 = .ok (.iload_n 1, 1) := by decide +kernel
theorem dX4_init_24 : decode cX4_init 24 = .ok (.bipush 16, 2) := by decide +kernel
theorem dX4_init_26 : decode cX4_init 26 = .ok (.if_icmp .ge 22, 3) := by decide +kernel
theorem dX4_init_29 : decode cX4_init 29 = .ok (.aload_n 0, 1) := by decide +kernel
theorem dX4_init_30 : decode cX4_init 30 = .ok (.getfield 11, 3) := by decide +kernel
theorem dX4_init_33 : decode cX4_init 33 = .ok (.iload_n 1, 1) := by decide +kernel
theorem dX4_init_34 : decode cX4_init 34 = .ok (.new 9, 3) := by decide +kernel
theorem dX4_init_37 : decode cX4_init 37 = .ok (.dup, 1) := by decide +kernel
theorem dX4_init_38 : decode cX4_init 38 = .ok (.invokespecial 20, 3) := by decide +kernel
theorem dX4_init_41 : decode cX4_init 41 = .ok (.aastore, 1) := by decide +kernel
theorem dX4_init_42 : decode cX4_init 42 = .ok (.iinc 1 1, 3) := by decide +kernel
theorem dX4_init_45 : decode cX4_init 45 = .ok (.goto (-22), 3) := by decide +kernel
theorem dX4_init_48 : decode cX4_init 48 = .ok (.iconst 0, 1) := by decide +kernel
theorem dX4_init_49 : decode cX4_init 49 = .ok (.istore_n 1, 1) := by decide +kernel
theorem dX4_init_50 : decode cX4_init 50 = .ok (.iload_n 1, 1) := by decide +kernel
theorem dX4_init_51 : decode cX4_init 51 = .ok (.iconst 3, 1) := by decide +kernel
theorem dX4_init_52 : decode cX4_init 52 = .ok (.if_icmp .ge 22, 3) := by decide +kernel
theorem dX4_init_55 : decode cX4_init 55 = .ok (.aload_n 0, 1) := by decide +kernel
theorem dX4_init_56 : decode cX4_init 56 = .ok (.getfield 17, 3) := by decide +kernel
theorem dX4_init_59 : decode cX4_init 59 = .ok (.iload_n 1, 1) := by decide +kernel
theorem dX4_init_60 : decode cX4_init 60 = .ok (.new 9, 3) := by decide +kernel
theorem dX4_init_63 : decode cX4_init 63 = .ok (.dup, 1) := by decide +kernel
theorem dX4_init_64 : decode cX4_init 64 = .ok (.invokespecial 20, 3) := by decide +kernel
theorem dX4_init_67 : decode cX4_init 67 = .ok (.aastore, 1) := by decide +kernel
theorem dX4_init_68 : decode cX4_init 68 = .ok (.iinc 1 1, 3) := by decide +kernel
theorem dX4_init_71 : decode cX4_init 71 = .ok (.goto (-21), 3) := by decide +kernel
theorem dX4_init_74 : decode cX4_init 74 = .ok (.return_, 1) := by decide +kernel
theorem dX4_forgetAll_0 : decode cX4_forgetAll 0 = .ok (.aload_n 0, 1) := by decide +kernel
theorem dX4_forgetAll_1 : decode cX4_forgetAll 1 = .ok (.iconst 0, 1) := by decide +kernel
theorem dX4_forgetAll_2 : decode cX4_forgetAll 2 = .ok (.putfield 21, 3) := by decide +kernel
theorem dX4_forgetAll_5 : decode cX4_forgetAll 5 = .ok (.aload_n 0, 1) := by decide +kernel
theorem dX4_forgetAll_6 : decode cX4_forgetAll 6 = .ok (.iconst 0, 1) := by decide +kernel
theorem dX4_forgetAll_7 : decode cX4_forgetAll 7 = .ok (.putfield 25, 3) := by decide +kernel
theorem dX4_forgetAll_10 : decode cX4_forgetAll 10 = .ok (.return_, 1) := by decide +kernel
theorem dX4_keep_0 : decode cX4_keep 0 = .ok (.aload_n 0, 1) := by decide +kernel
theorem dX4_keep_1 : decode cX4_keep 1 = .ok (.aload_n 0, 1) := by decide +kernel
theorem dX4_keep_2 : decode cX4_keep 2 = .ok (.getfield 28, 3) := by decide +kernel
theorem dX4_keep_5 : decode cX4_keep 5 = .ok (.iconst 1, 1) := by decide +kernel
theorem dX4_keep_6 : decode cX4_keep 6 = .ok (.iadd, 1) := by decide +kernel
theorem dX4_keep_7 : decode cX4_keep 7 = .ok (.bipush 16, 2) := by decide +kernel
theorem dX4_keep_9 : decode cX4_keep 9 = .ok (.if_icmp .ge 12, 3) := by decide +kernel
theorem dX4_keep_12 : decode cX4_keep 12 = .ok (.aload_n 0, 1) := by decide +kernel
theorem dX4_keep_13 : decode cX4_keep 13 = .ok (.getfield 28, 3) := by decide +kernel
theorem dX4_keep_16 : decode cX4_keep 16 = .ok (.iconst 1, 1) := by decide +kernel
theorem dX4_keep_17 : decode cX4_keep 17 = .ok (.iadd, 1) := by decide +kernel
theorem dX4_keep_18 : decode cX4_keep 18 = .ok (.goto 4, 3) := by decide +kernel
theorem dX4_keep_21 : decode cX4_keep 21 = .ok (.iconst 0, 1) := by decide +kernel
theorem dX4_keep_22 : decode cX4_keep 22 = .ok (.putfield 28, 3) := by decide +kernel
theorem dX4_keep_25 : decode cX4_keep 25 = .ok (.aload_n 0, 1) := by decide +kernel
theorem dX4_keep_26 : decode cX4_keep 26 = .ok (.getfield 11, 3) := by decide +kernel
theorem dX4_keep_29 : decode cX4_keep 29 = .ok (.aload_n 0, 1) := by decide +kernel
theorem dX4_keep_30 : decode cX4_keep 30 = .ok (.getfield 28, 3) := by decide +kernel
theorem dX4_keep_33 : decode cX4_keep 33 = .ok (.aaload, 1) := by decide +kernel
theorem dX4_keep_34 : decode cX4_keep 34 = .ok (.aload_n 1, 1) := by decide +kernel
theorem dX4_keep_35 : decode cX4_keep 35 = .ok (.invokevirtual 31, 3) := by decide +kernel
theorem dX4_keep_38 : decode cX4_keep 38 = .ok (.aload_n 0, 1) := by decide +kernel
theorem dX4_keep_39 : decode cX4_keep 39 = .ok (.bipush 16, 2) := by decide +kernel
theorem dX4_keep_41 : decode cX4_keep 41 = .ok (.aload_n 0, 1) := by decide +kernel
theorem dX4_keep_42 : decode cX4_keep 42 = .ok (.getfield 21, 3) := by decide +kernel
theorem dX4_keep_45 : decode cX4_keep 45 = .ok (.iconst 1, 1) := by decide +kernel
theorem dX4_keep_46 : decode cX4_keep 46 = .ok (.iadd, 1) := by decide +kernel
theorem dX4_keep_47 : decode cX4_keep 47 = .ok (.invokestatic 35, 3) := by decide +kernel
theorem dX4_keep_50 : decode cX4_keep 50 = .ok (.putfield 21, 3) := by decide +kernel
theorem dX4_keep_53 : decode cX4_keep 53 = .ok (.return_, 1) := by decide +kernel
theorem dX4_takeBack_0 : decode cX4_takeBack 0 = .ok (.aload_n 0, 1) := by decide +kernel
theorem dX4_takeBack_1 : decode cX4_takeBack 1 = .ok (.getfield 21, 3) := by decide +kernel
theorem dX4_takeBack_4 : decode cX4_takeBack 4 = .ok (.ifCond .ne 5, 3) := by decide +kernel
theorem dX4_takeBack_7 : decode cX4_takeBack 7 = .ok (.iconst 0, 1) := by decide +kernel
theorem dX4_takeBack_8 : decode cX4_takeBack 8 = .ok (.ireturn, 1) := by decide +kernel
theorem dX4_takeBack_9 : decode cX4_takeBack 9 = .ok (.aload_n 1, 1) := by decide +kernel
theorem dX4_takeBack_10 : decode cX4_takeBack 10 = .ok (.aload_n 0, 1) := by decide +kernel
theorem dX4_takeBack_11 : decode cX4_takeBack 11 = .ok (.getfield 11, 3) := by decide +kernel
theorem dX4_takeBack_14 : decode cX4_takeBack 14 = .ok (.aload_n 0, 1) := by decide +kernel
theorem dX4_takeBack_15 : decode cX4_takeBack 15 = .ok (.getfield 28, 3) := by decide +kernel
theorem dX4_takeBack_18 : decode cX4_takeBack 18 = .ok (.aaload, 1) := by decide +kernel
theorem dX4_takeBack_19 : decode cX4_takeBack 19 = .ok (.invokevirtual 31, 3) := by decide +kernel
theorem dX4_takeBack_22 : decode cX4_takeBack 22 = .ok (.aload_n 0, 1) := by decide +kernel
theorem dX4_takeBack_23 : decode cX4_takeBack 23 = .ok (.aload_n 0, 1) := by decide +kernel
theorem dX4_takeBack_24 : decode cX4_takeBack 24 = .ok (.getfield 28, 3) := by decide +kernel
theorem dX4_takeBack_27 : decode cX4_takeBack 27 = .ok (.ifCond .le 12, 3) := by decide +kernel
theorem dX4_takeBack_30 : decode cX4_takeBack 30 = .ok (.aload_n 0, 1) := by decide +kernel
theorem dX4_takeBack_31 : decode cX4_takeBack 31 = .ok (.getfield 28, 3) := by decide +kernel
theorem dX4_takeBack_34 : decode cX4_takeBack 34 = .ok (.iconst 1, 1) := by decide +kernel
theorem dX4_takeBack_35 : decode cX4_takeBack 35 = .ok (.isub, 1) := by decide +kernel
theorem dX4_takeBack_36 : decode cX4_takeBack 36 = .ok (.goto 5, 3) := by decide +kernel
theorem dX4_takeBack_39 : decode cX4_takeBack 39 = .ok (.bipush 15, 2) := by decide +kernel
theorem dX4_takeBack_41 : decode cX4_takeBack 41 = .ok (.putfield 28, 3) := by decide +kernel
theorem dX4_takeBack_44 : decode cX4_takeBack 44 = .ok (.aload_n 0, 1) := by decide +kernel
theorem dX4_takeBack_45 : decode cX4_takeBack 45 = .ok (.dup, 1) := by decide +kernel
theorem dX4_takeBack_46 : decode cX4_takeBack 46 = .ok (.getfield 21, 3) := by decide +kernel
theorem dX4_takeBack_49 : decode cX4_takeBack 49 = .ok (.iconst 1, 1) := by decide +kernel
theorem dX4_takeBack_50 : decode cX4_takeBack 50 = .ok (.isub, 1) := by decide +kernel
theorem dX4_takeBack_51 : decode cX4_takeBack 51 = .ok (.putfield 21, 3) := by decide +kernel
theorem dX4_takeBack_54 : decode cX4_takeBack 54 = .ok (.iconst 1, 1) := by decide +kernel
theorem dX4_takeBack_55 : decode cX4_takeBack 55 = .ok (.ireturn, 1) := by decide +kernel
theorem dX4_takeImage_0 : decode cX4_takeImage 0 = .ok (.aload_n 0, 1) := by decide +kernel
theorem dX4_takeImage_1 : decode cX4_takeImage 1 = .ok (.getfield 25, 3) := by decide +kernel
theorem dX4_takeImage_4 : decode cX4_takeImage 4 = .ok (.iconst 3, 1) := by decide +kernel
theorem dX4_takeImage_5 : decode cX4_takeImage 5 = .ok (.if_icmp .lt 6, 3) := by decide +kernel
theorem dX4_takeImage_8 : decode cX4_takeImage 8 = .ok (.bipush (-2), 2) := by decide +kernel
theorem dX4_takeImage_10 : decode cX4_takeImage 10 = .ok (.ireturn, 1) := by decide +kernel
theorem dX4_takeImage_11 : decode cX4_takeImage 11 = .ok (.aload_n 0, 1) := by decide +kernel
theorem dX4_takeImage_12 : decode cX4_takeImage 12 = .ok (.getfield 17, 3) := by decide +kernel
theorem dX4_takeImage_15 : decode cX4_takeImage 15 = .ok (.aload_n 0, 1) := by decide +kernel
theorem dX4_takeImage_16 : decode cX4_takeImage 16 = .ok (.getfield 25, 3) := by decide +kernel
theorem dX4_takeImage_19 : decode cX4_takeImage 19 = .ok (.aaload, 1) := by decide +kernel
theorem dX4_takeImage_20 : decode cX4_takeImage 20 = .ok (.aload_n 1, 1) := by decide +kernel
theorem dX4_takeImage_21 : decode cX4_takeImage 21 = .ok (.invokevirtual 31, 3) := by decide +kernel
theorem dX4_takeImage_24 : decode cX4_takeImage 24 = .ok (.aload_n 0, 1) := by decide +kernel
theorem dX4_takeImage_25 : decode cX4_takeImage 25 = .ok (.dup, 1) := by decide +kernel
theorem dX4_takeImage_26 : decode cX4_takeImage 26 = .ok (.getfield 25, 3) := by decide +kernel
theorem dX4_takeImage_29 : decode cX4_takeImage 29 = .ok (.iconst 1, 1) := by decide +kernel
theorem dX4_takeImage_30 : decode cX4_takeImage 30 = .ok (.iadd, 1) := by decide +kernel
theorem dX4_takeImage_31 : decode cX4_takeImage 31 = .ok (.putfield 25, 3) := by decide +kernel
theorem dX4_takeImage_34 : decode cX4_takeImage 34 = .ok (.aload_n 0, 1) := by decide +kernel
theorem dX4_takeImage_35 : decode cX4_takeImage 35 = .ok (.getfield 25, 3) := by decide +kernel
theorem dX4_takeImage_38 : decode cX4_takeImage 38 = .ok (.iconst 1, 1) := by decide +kernel
theorem dX4_takeImage_39 : decode cX4_takeImage 39 = .ok (.isub, 1) := by decide +kernel
theorem dX4_takeImage_40 : decode cX4_takeImage 40 = .ok (.ireturn, 1) := by decide +kernel
theorem dX4_returnTo_0 : decode cX4_returnTo 0 = .ok (.iload_n 1, 1) := by decide +kernel
theorem dX4_returnTo_1 : decode cX4_returnTo 1 = .ok (.ifCond .lt 16, 3) := by decide +kernel
theorem dX4_returnTo_4 : decode cX4_returnTo 4 = .ok (.iload_n 1, 1) := by decide +kernel
theorem dX4_returnTo_5 : decode cX4_returnTo 5 = .ok (.aload_n 0, 1) := by decide +kernel
theorem dX4_returnTo_6 : decode cX4_returnTo 6 = .ok (.getfield 25, 3) := by decide +kernel
theorem dX4_returnTo_9 : decode cX4_returnTo 9 = .ok (.if_icmp .ge 8, 3) := by decide +kernel
theorem dX4_returnTo_12 : decode cX4_returnTo 12 = .ok (.iload_n 1, 1) := by decide +kernel
theorem dX4_returnTo_13 : decode cX4_returnTo 13 = .ok (.iconst 3, 1) := by decide +kernel
theorem dX4_returnTo_14 : decode cX4_returnTo 14 = .ok (.if_icmp .lt 5, 3) := by decide +kernel
theorem dX4_returnTo_17 : decode cX4_returnTo 17 = .ok (.iconst 0, 1) := by decide +kernel
theorem dX4_returnTo_18 : decode cX4_returnTo 18 = .ok (.ireturn, 1) := by decide +kernel
theorem dX4_returnTo_19 : decode cX4_returnTo 19 = .ok (.aload_n 2, 1) := by decide +kernel
theorem dX4_returnTo_20 : decode cX4_returnTo 20 = .ok (.aload_n 0, 1) := by decide +kernel
theorem dX4_returnTo_21 : decode cX4_returnTo 21 = .ok (.getfield 17, 3) := by decide +kernel
theorem dX4_returnTo_24 : decode cX4_returnTo 24 = .ok (.iload_n 1, 1) := by decide +kernel
theorem dX4_returnTo_25 : decode cX4_returnTo 25 = .ok (.aaload, 1) := by decide +kernel
theorem dX4_returnTo_26 : decode cX4_returnTo 26 = .ok (.invokevirtual 31, 3) := by decide +kernel
theorem dX4_returnTo_29 : decode cX4_returnTo 29 = .ok (.aload_n 0, 1) := by decide +kernel
theorem dX4_returnTo_30 : decode cX4_returnTo 30 = .ok (.iconst 0, 1) := by decide +kernel
theorem dX4_returnTo_31 : decode cX4_returnTo 31 = .ok (.putfield 21, 3) := by decide +kernel
theorem dX4_returnTo_34 : decode cX4_returnTo 34 = .ok (.iconst 1, 1) := by decide +kernel
theorem dX4_returnTo_35 : decode cX4_returnTo 35 = .ok (.ireturn, 1) := by decide +kernel
