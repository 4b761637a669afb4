theorem dX10_clear_18 : decode cX10_clear 18 = .ok (.invokevirtual 444, 3) := by decide +kernel
theorem dX10_clear_21 : decode cX10_clear 21 = .ok (.aload_n 0, 1) := by decide +kernel
theorem dX10_clear_22 : decode cX10_clear 22 = .ok (.aload_n 0, 1) := by decide +kernel
theorem dX10_clear_23 : decode cX10_clear 23 = .ok (.getfield 41, 3) := by decide +kernel
theorem dX10_clear_26 : decode cX10_clear 26 = .ok (.invokevirtual 339, 3) := by decide +kernel
theorem dX10_clear_29 : decode cX10_clear 29 = .ok (.istore_n 1, 1) := by decide +kernel
theorem dX10_clear_30 : decode cX10_clear 30 = .ok (.iload_n 1, 1) := by decide +kernel
theorem dX10_clear_31 : decode cX10_clear 31 = .ok (.ifCond .ne 10, 3) := by decide +kernel
theorem dX10_clear_34 : decode cX10_clear 34 = .ok (.aload_n 0, 1) := by decide +kernel
theorem dX10_clear_35 : decode cX10_clear 35 = .ok (.bipush 6, 2) := by decide +kernel
theorem dX10_clear_37 : decode cX10_clear 37 = .ok (.invokevirtual 250, 3) := by decide +kernel
theorem dX10_clear_40 : decode cX10_clear 40 = .ok (.ireturn, 1) := by decide +kernel
theorem dX10_clear_41 : decode cX10_clear 41 = .ok (.aload_n 0, 1) := by decide +kernel
theorem dX10_clear_42 : decode cX10_clear 42 = .ok (.invokevirtual 447, 3) := by decide +kernel
theorem dX10_clear_45 : decode cX10_clear 45 = .ok (.iload_n 1, 1) := by decide +kernel
theorem dX10_clear_46 : decode cX10_clear 46 = .ok (.ireturn, 1) := by decide +kernel
theorem dX10_freeze_0 : decode cX10_freeze 0 = .ok (.aload_n 0, 1) := by decide +kernel
theorem dX10_freeze_1 : decode cX10_freeze 1 = .ok (.invokevirtual 247, 3) := by decide +kernel
theorem dX10_freeze_4 : decode cX10_freeze 4 = .ok (.aload_n 0, 1) := by decide +kernel
theorem dX10_freeze_5 : decode cX10_freeze 5 = .ok (.getfield 260, 3) := by decide +kernel
theorem dX10_freeze_8 : decode cX10_freeze 8 = .ok (.ifCond .ne 9, 3) := by decide +kernel
theorem dX10_freeze_11 : decode cX10_freeze 11 = .ok (.aload_n 0, 1) := by decide +kernel
theorem dX10_freeze_12 : decode cX10_freeze 12 = .ok (.iconst 1, 1) := by decide +kernel
theorem dX10_freeze_13 : decode cX10_freeze 13 = .ok (.invokevirtual 250, 3) := by decide +kernel
theorem dX10_freeze_16 : decode cX10_freeze 16 = .ok (.ireturn, 1) := by decide +kernel
theorem dX10_freeze_17 : decode cX10_freeze 17 = .ok (.aload_n 0, 1) := by decide +kernel
theorem dX10_freeze_18 : decode cX10_freeze 18 = .ok (.invokevirtual 444, 3) := by decide +kernel
theorem dX10_freeze_21 : decode cX10_freeze 21 = .ok (.aload_n 0, 1) := by decide +kernel
theorem dX10_freeze_22 : decode cX10_freeze 22 = .ok (.aload_n 0, 1) := by decide +kernel
theorem dX10_freeze_23 : decode cX10_freeze 23 = .ok (.getfield 41, 3) := by decide +kernel
theorem dX10_freeze_26 : decode cX10_freeze 26 = .ok (.invokevirtual 342, 3) := by decide +kernel
theorem dX10_freeze_29 : decode cX10_freeze 29 = .ok (.istore_n 1, 1) := by decide +kernel
theorem dX10_freeze_30 : decode cX10_freeze 30 = .ok (.iload_n 1, 1) := by decide +kernel
theorem dX10_freeze_31 : decode cX10_freeze 31 = .ok (.ifCond .ne 10, 3) := by decide +kernel
theorem dX10_freeze_34 : decode cX10_freeze 34 = .ok (.aload_n 0, 1) := by decide +kernel
theorem dX10_freeze_35 : decode cX10_freeze 35 = .ok (.bipush 6, 2) := by decide +kernel
theorem dX10_freeze_37 : decode cX10_freeze 37 = .ok (.invokevirtual 250, 3) := by decide +kernel
theorem dX10_freeze_40 : decode cX10_freeze 40 = .ok (.ireturn, 1) := by decide +kernel
theorem dX10_freeze_41 : decode cX10_freeze 41 = .ok (.aload_n 0, 1) := by decide +kernel
theorem dX10_freeze_42 : decode cX10_freeze 42 = .ok (.invokevirtual 447, 3) := by decide +kernel
theorem dX10_freeze_45 : decode cX10_freeze 45 = .ok (.iload_n 1, 1) := by decide +kernel
theorem dX10_freeze_46 : decode cX10_freeze 46 = .ok (.ireturn, 1) := by decide +kernel
theorem dX10_undo_0 : decode cX10_undo 0 = .ok (.aload_n 0, 1) := by decide +kernel
theorem dX10_undo_1 : decode cX10_undo 1 = .ok (.invokevirtual 247, 3) := by decide +kernel
theorem dX10_undo_4 : decode cX10_undo 4 = .ok (.aload_n 0, 1) := by decide +kernel
theorem dX10_undo_5 : decode cX10_undo 5 = .ok (.getfield 263, 3) := by decide +kernel
theorem dX10_undo_8 : decode cX10_undo 8 = .ok (.ifCond .ne 10, 3) := by decide +kernel
theorem dX10_undo_11 : decode cX10_undo 11 = .ok (.aload_n 0, 1) := by decide +kernel
theorem dX10_undo_12 : decode cX10_undo 12 = .ok (.bipush 6, 2) := by decide +kernel
theorem dX10_undo_14 : decode cX10_undo 14 = .ok (.invokevirtual 453, 3) := by decide +kernel
theorem dX10_undo_17 : decode cX10_undo 17 = .ok (.ireturn, 1) := by decide +kernel
theorem dX10_undo_18 : decode cX10_undo 18 = .ok (.aload_n 0, 1) := by decide +kernel
theorem dX10_undo_19 : decode cX10_undo 19 = .ok (.dup, 1) := by decide +kernel
theorem dX10_undo_20 : decode cX10_undo 20 = .ok (.getfield 263, 3) := by decide +kernel
theorem dX10_undo_23 : decode cX10_undo 23 = .ok (.iconst 1, 1) := by decide +kernel
theorem dX10_undo_24 : decode cX10_undo 24 = .ok (.isub, 1) := by decide +kernel
theorem dX10_undo_25 : decode cX10_undo 25 = .ok (.putfield 263, 3) := by decide +kernel
theorem dX10_undo_28 : decode cX10_undo 28 = .ok (.aload_n 0, 1) := by decide +kernel
theorem dX10_undo_29 : decode cX10_undo 29 = .ok (.getfield 44, 3) := by decide +kernel
theorem dX10_undo_32 : decode cX10_undo 32 = .ok (.sipush 325, 3) := by decide +kernel
theorem dX10_undo_35 : decode cX10_undo 35 = .ok (.aload_n 0, 1) := by decide +kernel
theorem dX10_undo_36 : decode cX10_undo 36 = .ok (.getfield 263, 3) := by decide +kernel
theorem dX10_undo_39 : decode cX10_undo 39 = .ok (.imul, 1) := by decide +kernel
theorem dX10_undo_40 : decode cX10_undo 40 = .ok (.aload_n 0, 1) := by decide +kernel
theorem dX10_undo_41 : decode cX10_undo 41 = .ok (.getfield 38, 3) := by decide +kernel
theorem dX10_undo_44 : decode cX10_undo 44 = .ok (.iconst 0, 1) := by decide +kernel
theorem dX10_undo_45 : decode cX10_undo 45 = .ok (.sipush 325, 3) := by decide +kernel
theorem dX10_undo_48 : decode cX10_undo 48 = .ok (.invokestatic 256, 3) := by decide +kernel
theorem dX10_undo_51 : decode cX10_undo 51 = .ok (.iconst 1, 1) := by decide +kernel
theorem dX10_undo_52 : decode cX10_undo 52 = .ok (.ireturn, 1) := by decide +kernel
theorem dX10_image_0 : decode cX10_image 0 = .ok (.aload_n 0, 1) := by decide +kernel
theorem dX10_image_1 : decode cX10_image 1 = .ok (.invokevirtual 247, 3) := by decide +kernel
theorem dX10_image_4 : decode cX10_image 4 = .ok (.aload_n 0, 1) := by decide +kernel
theorem dX10_image_5 : decode cX10_image 5 = .ok (.getfield 260, 3) := by decide +kernel
theorem dX10_image_8 : decode cX10_image 8 = .ok (.ifCond .ne 9, 3) := by decide +kernel
theorem dX10_image_11 : decode cX10_image 11 = .ok (.aload_n 0, 1) := by decide +kernel
theorem dX10_image_12 : decode cX10_image 12 = .ok (.iconst 1, 1) := by decide +kernel
theorem dX10_image_13 : decode cX10_image 13 = .ok (.invokevirtual 250, 3) := by decide +kernel
theorem dX10_image_16 : decode cX10_image 16 = .ok (.ireturn, 1) := by decide +kernel
theorem dX10_image_17 : decode cX10_image 17 = .ok (.aload_n 0, 1) := by decide +kernel
theorem dX10_image_18 : decode cX10_image 18 = .ok (.getfield 266, 3) := by decide +kernel
theorem dX10_image_21 : decode cX10_image 21 = .ok (.iconst 3, 1) := by decide +kernel
theorem dX10_image_22 : decode cX10_image 22 = .ok (.if_icmp .ne 9, 3) := by decide +kernel
theorem dX10_image_25 : decode cX10_image 25 = .ok (.aload_n 0, 1) := by decide +kernel
theorem dX10_image_26 : decode cX10_image 26 = .ok (.iconst 3, 1) := by decide +kernel
theorem dX10_image_27 : decode cX10_image 27 = .ok (.invokevirtual 250, 3) := by decide +kernel
theorem dX10_image_30 : decode cX10_image 30 = .ok (.ireturn, 1) := by decide +kernel
theorem dX10_image_31 : decode cX10_image 31 = .ok (.aload_n 0, 1) := by decide +kernel
theorem dX10_image_32 : decode cX10_image 32 = .ok (.getfield 38, 3) := by decide +kernel
theorem dX10_image_35 : decode cX10_image 35 = .ok (.iconst 0, 1) := by decide +kernel
theorem dX10_image_36 : decode cX10_image 36 = .ok (.aload_n 0, 1) := by decide +kernel
theorem dX10_image_37 : decode cX10_image 37 = .ok (.getfield 47, 3) := by decide +kernel
theorem dX10_image_40 : decode cX10_image 40 = .ok (.sipush 325, 3) := by decide +kernel
theorem dX10_image_43 : decode cX10_image 43 = .ok (.aload_n 0, 1) := by decide +kernel
theorem dX10_image_44 : decode cX10_image 44 = .ok (.getfield 266, 3) := by decide +kernel
theorem dX10_image_47 : decode cX10_image 47 = .ok (.imul, 1) := by decide +kernel
theorem dX10_image_48 : decode cX10_image 48 = .ok (.sipush 325, 3) := by decide +kernel
theorem dX10_image_51 : decode cX10_image 51 = .ok (.invokestatic 256, 3) := by decide +kernel
theorem dX10_image_54 : decode cX10_image 54 = .ok (.aload_n 0, 1) := by decide +kernel
theorem dX10_image_55 : decode cX10_image 55 = .ok (.dup, 1) := by decide +kernel
theorem dX10_image_56 : decode cX10_image 56 = .ok (.getfield 266, 3) := by decide +kernel
theorem dX10_image_59 : decode cX10_image 59 = .ok (.iconst 1, 1) := by decide +kernel
theorem dX10_image_60 : decode cX10_image 60 = .ok (.iadd, 1) := by decide +kernel
theorem dX10_image_61 : decode cX10_image 61 = .ok (.putfield 266, 3) := by decide +kernel
theorem dX10_image_64 : decode cX10_image 64 = .ok (.aload_n 0, 1) := by decide +kernel
theorem dX10_image_65 : decode cX10_image 65 = .ok (.getfield 266, 3) := by decide +kernel
theorem dX10_image_68 : decode cX10_image 68 = .ok (.iconst 1, 1) := by decide +kernel
theorem dX10_image_69 : decode cX10_image 69 = .ok (.isub, 1) := by decide +kernel
theorem dX10_image_70 : decode cX10_image 70 = .ok (.ireturn, 1) := by decide +kernel
theorem dX10_back_0 : decode cX10_back 0 = .ok (.aload_n 0, 1) := by decide +kernel
theorem dX10_back_1 : decode cX10_back 1 = .ok (.invokevirtual 247, 3) := by decide +kernel
theorem dX10_back_4 : decode cX10_back 4 = .ok (.iload_n 1, 1) := by decide +kernel
theorem dX10_back_5 : decode cX10_back 5 = .ok (.iconst 0, 1) := by decide +kernel
theorem dX10_back_6 : decode cX10_back 6 = .ok (.aload_n 0, 1) := by decide +kernel
theorem dX10_back_7 : decode cX10_back 7 = .ok (.getfield 266, 3) := by decide +kernel
theorem dX10_back_10 : decode cX10_back 10 = .ok (.iconst 1, 1) := by decide +kernel
theorem dX10_back_11 : decode cX10_back 11 = .ok (.isub, 1) := by decide +kernel
theorem dX10_back_12 : decode cX10_back 12 = .ok (.invokestatic 81, 3) := by decide +kernel
theorem dX10_back_15 : decode cX10_back 15 = .ok (.ifCond .ne 9, 3) := by decide +kernel
theorem dX10_back_18 : decode cX10_back 18 = .ok (.aload_n 0, 1) := by decide +kernel
theorem dX10_back_19 : decode cX10_back 19 = .ok (.iconst 1, 1) := by decide +kernel
theorem dX10_back_20 : decode cX10_back 20 = .ok (.invokevirtual 453, 3) := by decide +kernel
theorem dX10_back_23 : decode cX10_back 23 = .ok (.ireturn, 1) := by decide +kernel
theorem dX10_back_24 : decode cX10_back 24 = .ok (.aload_n 0, 1) := by decide +kernel
theorem dX10_back_25 : decode cX10_back 25 = .ok (.getfield 47, 3) := by decide +kernel
theorem dX10_back_28 : decode cX10_back 28 = .ok (.sipush 325, 3) := by decide +kernel
theorem dX10_back_31 : decode cX10_back 31 = .ok (.iload_n 1, 1) := by decide +kernel
theorem dX10_back_32 : decode cX10_back 32 = .ok (.imul, 1) := by decide +kernel
theorem dX10_back_33 : decode cX10_back 33 = .ok (.aload_n 0, 1) := by decide +kernel
theorem dX10_back_34 : decode cX10_back 34 = .ok (.getfield 38, 3) := by decide +kernel
theorem dX10_back_37 : decode cX10_back 37 = .ok (.iconst 0, 1) := by decide +kernel
theorem dX10_back_38 : decode cX10_back 38 = .ok (.sipush 325, 3) := by decide +kernel
theorem dX10_back_41 : decode cX10_back 41 = .ok (.invokestatic 256, 3) := by decide +kernel
theorem dX10_back_44 : decode cX10_back 44 = .ok (.aload_n 0, 1) := by decide +kernel
theorem dX10_back_45 : decode cX10_back 45 = .ok (.iconst 0, 1) := by decide +kernel
theorem dX10_back_46 : decode cX10_back 46 = .ok (.putfield 263, 3) := by decide +kernel
theorem dX10_back_49 : decode cX10_back 49 = .ok (.iconst 1, 1) := by decide +kernel
theorem dX10_back_50 : decode cX10_back 50 = .ok (.ireturn, 1) := by decide +kernel
theorem dX10_led_0 : decode cX10_led 0 = .ok (.iconst 0, 1) := by decide +kernel
theorem dX10_led_1 : decode cX10_led 1 = .ok (.istore_n 2, 1) := by decide +kernel
theorem dX10_led_2 : decode cX10_led 2 = .ok (.iconst 0, 1) := by decide +kernel
theorem dX10_led_3 : decode cX10_led 3 = .ok (.istore_n 3, 1) := by decide +kernel
theorem dX10_led_4 : decode cX10_led 4 = .ok (.aload_n 0, 1) := by decide +kernel
theorem dX10_led_5 : decode cX10_led 5 = .ok (.getfield 260, 3) := by decide +kernel
theorem dX10_led_8 : decode cX10_led 8 = .ok (.ifCond .eq 50, 3) := by decide +kernel
theorem dX10_led_11 : decode cX10_led 11 = .ok (.iload_n 3, 1) := by decide +kernel
theorem dX10_led_12 : decode cX10_led 12 = .ok (.aload_n 0, 1) := by decide +kernel
theorem dX10_led_13 : decode cX10_led 13 = .ok (.getfield 20, 3) := by decide +kernel
theorem dX10_led_16 : decode cX10_led 16 = .ok (.iconst 1, 1) := by decide +kernel
theorem dX10_led_17 : decode cX10_led 17 = .ok (.iaload, 1) := by decide +kernel
theorem dX10_led_18 : decode cX10_led 18 = .ok (.if_icmp .ge 40, 3) := by decide +kernel
theorem dX10_led_21 : decode cX10_led 21 = .ok (.aload_n 0, 1) := by decide +kernel
theorem dX10_led_22 : decode cX10_led 22 = .ok (.aload_n 0, 1) := by decide +kernel
theorem dX10_led_23 : decode cX10_led 23 = .ok (.getfield 38, 3) := by decide +kernel
theorem dX10_led_26 : decode cX10_led 26 = .ok (.iconst (-1), 1) := by decide +kernel
theorem dX10_led_27 : decode cX10_led 27 = .ok (.iload_n 3, 1) := by decide +kernel
theorem dX10_led_28 : decode cX10_led 28 = .ok (.invokevirtual 102, 3) := by decide +kernel
theorem dX10_led_31 : decode cX10_led 31 = .ok (.ifCond .lt 6, 3) := by decide +kernel
theorem dX10_led_34 : decode cX10_led 34 = .ok (.goto 18, 3) := by decide +kernel
theorem dX10_led_37 : decode cX10_led 37 = .ok (.iload_n 2, 1) := by decide +kernel
theorem dX10_led_38 : decode cX10_led 38 = .ok (.iload_n 1, 1) := by decide +kernel
theorem dX10_led_39 : decode cX10_led 39 = .ok (.if_icmp .ne 10, 3) := by decide +kernel
theorem dX10_led_42 : decode cX10_led 42 = .ok (.aload_n 0, 1) := by decide +kernel
theorem dX10_led_43 : decode cX10_led 43 = .ok (.iconst 0, 1) := by decide +kernel
theorem dX10_led_44 : decode cX10_led 44 = .ok (.putfield 65, 3) := by decide +kernel
theorem dX10_led_47 : decode cX10_led 47 = .ok (.iload_n 3, 1) := by decide +kernel
theorem dX10_led_48 : decode cX10_led 48 = .ok (.ireturn, 1) := by decide +kernel
theorem dX10_led_49 : decode cX10_led 49 = .ok (.iinc 2 1, 3) := by decide +kernel
theorem dX10_led_52 : decode cX10_led 52 = .ok (.iinc 3 1, 3) := by decide +kernel
theorem dX10_led_55 : decode cX10_led 55 = .ok (.goto (-51), 3) := by decide +kernel
theorem dX10_led_58 : decode cX10_led 58 = .ok (.aload_n 0, 1) := by decide +kernel
theorem dX10_led_59 : decode cX10_led 59 = .ok (.iconst 1, 1) := by decide +kernel
theorem dX10_led_60 : decode cX10_led 60 = .ok (.putfield 65, 3) := by decide +kernel
theorem dX10_led_63 : decode cX10_led 63 = .ok (.iconst 0, 1) := by decide +kernel
theorem dX10_led_64 : decode cX10_led 64 = .ok (.ireturn, 1) := by decide +kernel
theorem dX10_runMany_0 : decode cX10_runMany 0 = .ok (.iconst 0, 1) := by decide +kernel
theorem dX10_runMany_1 : decode cX10_runMany 1 = .ok (.istore_n 1, 1) := by decide +kernel
theorem dX10_runMany_2 : decode cX10_runMany 2 = .ok (.iconst 0, 1) := by decide +kernel
theorem dX10_runMany_3 : decode cX10_runMany 3 = .ok (.istore_n 2, 1) := by decide +kernel
theorem dX10_runMany_4 : decode cX10_runMany 4 = .ok (.iload_n 2, 1) := by decide +kernel
theorem dX10_runMany_5 : decode cX10_runMany 5 = .ok (.bipush 6, 2) := by decide +kernel
theorem dX10_runMany_7 : decode cX10_runMany 7 = .ok (.if_icmp .ge 29, 3) := by decide +kernel
theorem dX10_runMany_10 : decode cX10_runMany 10 = .ok (.iload_n 1, 1) := by decide +kernel
theorem dX10_runMany_11 : decode cX10_runMany 11 = .ok (.aload_n 0, 1) := by decide +kernel
theorem dX10_runMany_12 : decode cX10_runMany 12 = .ok (.aload_n 0, 1) := by decide +kernel
theorem dX10_runMany_13 : decode cX10_runMany 13 = .ok (.getfield 38, 3) := by decide +kernel
theorem dX10_runMany_16 : decode cX10_runMany 16 = .ok (.iload_n 2, 1) := by decide +kernel
theorem dX10_runMany_17 : decode cX10_runMany 17 = .ok (.invokevirtual 116, 3) := by decide +kernel
theorem dX10_runMany_20 : decode cX10_runMany 20 = .ok (.ifCond .eq 7, 3) := by decide +kernel
theorem dX10_runMany_23 : decode cX10_runMany 23 = .ok (.iconst 1, 1) := by decide +kernel
theorem dX10_runMany_24 : decode cX10_runMany 24 = .ok (.goto 4, 3) := by decide +kernel
theorem dX10_runMany_27 : decode cX10_runMany 27 = .ok (.iconst 0, 1) := by decide +kernel
theorem dX10_runMany_28 : decode cX10_runMany 28 = .ok (.iadd, 1) := by decide +kernel
theorem dX10_runMany_29 : decode cX10_runMany 29 = .ok (.istore_n 1, 1) := by decide +kernel
theorem dX10_runMany_30 : decode cX10_runMany 30 = .ok (.iinc 2 1, 3) := by decide +kernel
theorem dX10_runMany_33 : decode cX10_runMany 33 = .ok (.goto (-29), 3) := by decide +kernel
theorem dX10_runMany_36 : decode cX10_runMany 36 = .ok (.iload_n 1, 1) := by decide +kernel
theorem dX10_runMany_37 : decode cX10_runMany 37 = .ok (.ireturn, 1) := by decide +kernel
theorem dX10_size_0 : decode cX10_size 0 = .ok (.aload_n 0, 1) := by decide +kernel
theorem dX10_size_1 : decode cX10_size 1 = .ok (.iconst 0, 1) := by decide +kernel
theorem dX10_size_2 : decode cX10_size 2 = .ok (.putfield 65, 3) := by decide +kernel
theorem dX10_size_5 : decode cX10_size 5 = .ok (.iload_n 1, 1) := by decide +kernel
theorem dX10_size_6 : decode cX10_size 6 = .ok (.bipush 9, 2) := by decide +kernel
theorem dX10_size_8 : decode cX10_size 8 = .ok (.if_icmp .ne 8, 3) := by decide +kernel
theorem dX10_size_11 : decode cX10_size 11 = .ok (.aload_n 0, 1) := by decide +kernel
theorem dX10_size_12 : decode cX10_size 12 = .ok (.getfield 71, 3) := by decide +kernel
theorem dX10_size_15 : decode cX10_size 15 = .ok (.ireturn, 1) := by decide +kernel
theorem dX10_size_16 : decode cX10_size 16 = .ok (.aload_n 0, 1) := by decide +kernel
theorem dX10_size_17 : decode cX10_size 17 = .ok (.getfield 260, 3) := by decide +kernel
theorem dX10_size_20 : decode cX10_size 20 = .ok (.ifCond .ne 19, 3) := by decide +kernel
theorem dX10_size_23 : decode cX10_size 23 = .ok (.iload_n 1, 1) := by decide +kernel
theorem dX10_size_24 : decode cX10_size 24 = .ok (.iconst 0, 1) := by decide +kernel
theorem dX10_size_25 : decode cX10_size 25 = .ok (.bipush 8, 2) := by decide +kernel
theorem dX10_size_27 : decode cX10_size 27 = .ok (.invokestatic 81, 3) := by decide +kernel
theorem dX10_size_30 : decode cX10_size 30 = .ok (.ifCond .eq 7, 3) := by decide +kernel
theorem dX10_size_33 : decode cX10_size 33 = .ok (.iconst 0, 1) := by decide +kernel
theorem dX10_size_34 : decode cX10_size 34 = .ok (.goto 4, 3) := by decide +kernel
theorem dX10_size_37 : decode cX10_size 37 = .ok (.iconst (-1), 1) := by decide +kernel
theorem dX10_size_38 : decode cX10_size 38 = .ok (.ireturn, 1) := by decide +kernel
theorem dX10_size_39 : decode cX10_size 39 = .ok (.iload_n 1, 1) := by decide +kernel
theorem dX10_size_40 : decode cX10_size 40 = .ok (.tableswitch 110 0 8 #[52, 59, 66, 73, 81, 86, 93, 100, 105], 52) := by decide +kernel
theorem dX10_size_92 : decode cX10_size 92 = .ok (.aload_n 0, 1) := by decide +kernel
theorem dX10_size_93 : decode cX10_size 93 = .ok (.getfield 20, 3) := by decide +kernel
theorem dX10_size_96 : decode cX10_size 96 = .ok (.iconst 0, 1) := by decide +kernel
theorem dX10_size_97 : decode cX10_size 97 = .ok (.iaload, 1) := by decide +kernel
theorem dX10_size_98 : decode cX10_size 98 = .ok (.ireturn, 1) := by decide +kernel
theorem dX10_size_99 : decode cX10_size 99 = .ok (.aload_n 0, 1) := by decide +kernel
theorem dX10_size_100 : decode cX10_size 100 = .ok (.getfield 20, 3) := by decide +kernel
theorem dX10_size_103 : decode cX10_size 103 = .ok (.iconst 1, 1) := by decide +kernel
theorem dX10_size_104 : decode cX10_size 104 = .ok (.iaload, 1) := by decide +kernel
theorem dX10_size_105 : decode cX10_size 105 = .ok (.ireturn, 1) := by decide +kernel
theorem dX10_size_106 : decode cX10_size 106 = .ok (.aload_n 0, 1) := by decide +kernel
theorem dX10_size_107 : decode cX10_size 107 = .ok (.getfield 20, 3) := by decide +kernel
theorem dX10_size_110 : decode cX10_size 110 = .ok (.iconst 3, 1) := by decide +kernel
theorem dX10_size_111 : decode cX10_size 111 = .ok (.iaload, 1) := by decide +kernel
theorem dX10_size_112 : decode cX10_size 112 = .ok (.ireturn, 1) := by decide +kernel
theorem dX10_size_113 : decode cX10_size 113 = .ok (.aload_n 0, 1) := by decide +kernel
theorem dX10_size_114 : decode cX10_size 114 = .ok (.getfield 38, 3) := by decide +kernel
theorem dX10_size_117 : decode cX10_size 117 = .ok (.invokestatic 269, 3) := by decide +kernel
theorem dX10_size_120 : decode cX10_size 120 = .ok (.ireturn, 1) := by decide +kernel
theorem dX10_size_121 : decode cX10_size 121 = .ok (.aload_n 0, 1) := by decide +kernel
theorem dX10_size_122 : decode cX10_size 122 = .ok (.invokevirtual 456, 3) := by decide +kernel
theorem dX10_size_125 : decode cX10_size 125 = .ok (.ireturn, 1) := by decide +kernel
theorem dX10_size_126 : decode cX10_size 126 = .ok (.aload_n 0, 1) := by decide +kernel
theorem dX10_size_127 : decode cX10_size 127 = .ok (.getfield 20, 3) := by decide +kernel
theorem dX10_size_130 : decode cX10_size 130 = .ok (.iconst 4, 1) := by decide +kernel
theorem dX10_size_131 : decode cX10_size 131 = .ok (.iaload, 1) := by decide +kernel
theorem dX10_size_132 : decode cX10_size 132 = .ok (.ireturn, 1) := by decide +kernel
theorem dX10_size_133 : decode cX10_size 133 = .ok (.aload_n 0, 1) := by decide +kernel
theorem dX10_size_134 : decode cX10_size 134 = .ok (.getfield 20, 3) := by decide +kernel
theorem dX10_size_137 : decode cX10_size 137 = .ok (.iconst 5, 1) := by decide +kernel
theorem dX10_size_138 : decode cX10_size 138 = .ok (.iaload, 1) := by decide +kernel
theorem dX10_size_139 : decode cX10_size 139 = .ok (.ireturn, 1) := by decide +kernel
theorem dX10_size_140 : decode cX10_size 140 = .ok (.aload_n 0, 1) := by decide +kernel
theorem dX10_size_141 : decode cX10_size 141 = .ok (.getfield 263, 3) := by decide +kernel
theorem dX10_size_144 : decode cX10_size 144 = .ok (.ireturn, 1) := by decide +kernel
theorem dX10_size_145 : decode cX10_size 145 = .ok (.aload_n 0, 1) := by decide +kernel
theorem dX10_size_146 : decode cX10_size 146 = .ok (.getfield 266, 3) := by decide +kernel
theorem dX10_size_149 : decode cX10_size 149 = .ok (.ireturn, 1) := by decide +kernel
theorem dX10_size_150 : decode cX10_size 150 = .ok (.iconst (-1), 1) := by decide +kernel
theorem dX10_size_151 : decode cX10_size 151 = .ok (.ireturn, 1) := by decide +kernel
theorem dX10_trouble_0 : decode cX10_trouble 0 = .ok (.aload_n 0, 1) := by decide +kernel
theorem dX10_trouble_1 : decode cX10_trouble 1 = .ok (.iconst 0, 1) := by decide +kernel
theorem dX10_trouble_2 : decode cX10_trouble 2 = .ok (.putfield 65, 3) := by decide +kernel
theorem dX10_trouble_5 : decode cX10_trouble 5 = .ok (.aload_n 0, 1) := by decide +kernel
theorem dX10_trouble_6 : decode cX10_trouble 6 = .ok (.getfield 68, 3) := by decide +kernel
theorem dX10_trouble_9 : decode cX10_trouble 9 = .ok (.ireturn, 1) := by decide +kernel
