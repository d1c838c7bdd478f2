theorem dX9_line_1 : decode cX9_line 1 = .ok (.iload_n 2, 1) := by decide +kernel
theorem dX9_line_2 : decode cX9_line 2 = .ok (.invokevirtual 205, 3) := by decide +kernel
theorem dX9_line_5 : decode cX9_line 5 = .ok (.istore_n 3, 1) := by decide +kernel
theorem dX9_line_6 : decode cX9_line 6 = .ok (.iload_n 3, 1) := by decide +kernel
theorem dX9_line_7 : decode cX9_line 7 = .ok (.ifCond .ne 19, 3) := by decide +kernel
theorem dX9_line_10 : decode cX9_line 10 = .ok (.iload_n 1, 1) := by decide +kernel
theorem dX9_line_11 : decode cX9_line 11 = .ok (.i2l, 1) := by decide +kernel
theorem dX9_line_12 : decode cX9_line 12 = .ok (.lconst 0, 1) := by decide +kernel
theorem dX9_line_13 : decode cX9_line 13 = .ok (.aload_n 0, 1) := by decide +kernel
theorem dX9_line_14 : decode cX9_line 14 = .ok (.getfield 7, 3) := by decide +kernel
theorem dX9_line_17 : decode cX9_line 17 = .ok (.iconst 0, 1) := by decide +kernel
theorem dX9_line_18 : decode cX9_line 18 = .ok (.iaload, 1) := by decide +kernel
theorem dX9_line_19 : decode cX9_line 19 = .ok (.i2l, 1) := by decide +kernel
theorem dX9_line_20 : decode cX9_line 20 = .ok (.invokestatic 60, 3) := by decide +kernel
theorem dX9_line_23 : decode cX9_line 23 = .ok (.ifCond .ne 14, 3) := by decide +kernel
theorem dX9_line_26 : decode cX9_line 26 = .ok (.iload_n 3, 1) := by decide +kernel
theorem dX9_line_27 : decode cX9_line 27 = .ok (.ifCond .eq 7, 3) := by decide +kernel
theorem dX9_line_30 : decode cX9_line 30 = .ok (.iload_n 3, 1) := by decide +kernel
theorem dX9_line_31 : decode cX9_line 31 = .ok (.goto 5, 3) := by decide +kernel
theorem dX9_line_34 : decode cX9_line 34 = .ok (.ldc 70, 2) := by decide +kernel
theorem dX9_line_36 : decode cX9_line 36 = .ok (.ireturn, 1) := by decide +kernel
theorem dX9_line_37 : decode cX9_line 37 = .ok (.aload_n 0, 1) := by decide +kernel
theorem dX9_line_38 : decode cX9_line 38 = .ok (.invokevirtual 208, 3) := by decide +kernel
theorem dX9_line_41 : decode cX9_line 41 = .ok (.aload_n 0, 1) := by decide +kernel
theorem dX9_line_42 : decode cX9_line 42 = .ok (.iload_n 2, 1) := by decide +kernel
theorem dX9_line_43 : decode cX9_line 43 = .ok (.invokevirtual 211, 3) := by decide +kernel
theorem dX9_line_46 : decode cX9_line 46 = .ok (.pop, 1) := by decide +kernel
theorem dX9_line_47 : decode cX9_line 47 = .ok (.aload_n 0, 1) := by decide +kernel
theorem dX9_line_48 : decode cX9_line 48 = .ok (.getfield 41, 3) := by decide +kernel
theorem dX9_line_51 : decode cX9_line 51 = .ok (.iload_n 1, 1) := by decide +kernel
theorem dX9_line_52 : decode cX9_line 52 = .ok (.iaload, 1) := by decide +kernel
theorem dX9_line_53 : decode cX9_line 53 = .ok (.ifCond .ge 8, 3) := by decide +kernel
theorem dX9_line_56 : decode cX9_line 56 = .ok (.ldc 128, 2) := by decide +kernel
theorem dX9_line_58 : decode cX9_line 58 = .ok (.goto 9, 3) := by decide +kernel
theorem dX9_line_61 : decode cX9_line 61 = .ok (.aload_n 0, 1) := by decide +kernel
theorem dX9_line_62 : decode cX9_line 62 = .ok (.getfield 41, 3) := by decide +kernel
theorem dX9_line_65 : decode cX9_line 65 = .ok (.iload_n 1, 1) := by decide +kernel
theorem dX9_line_66 : decode cX9_line 66 = .ok (.iaload, 1) := by decide +kernel
theorem dX9_line_67 : decode cX9_line 67 = .ok (.ireturn, 1) := by decide +kernel
theorem dX9_left_0 : decode cX9_left 0 = .ok (.aload_n 0, 1) := by decide +kernel
theorem dX9_left_1 : decode cX9_left 1 = .ok (.iload_n 1, 1) := by decide +kernel
theorem dX9_left_2 : decode cX9_left 2 = .ok (.invokevirtual 205, 3) := by decide +kernel
theorem dX9_left_5 : decode cX9_left 5 = .ok (.istore_n 2, 1) := by decide +kernel
theorem dX9_left_6 : decode cX9_left 6 = .ok (.iload_n 2, 1) := by decide +kernel
theorem dX9_left_7 : decode cX9_left 7 = .ok (.ifCond .eq 5, 3) := by decide +kernel
theorem dX9_left_10 : decode cX9_left 10 = .ok (.iload_n 2, 1) := by decide +kernel
theorem dX9_left_11 : decode cX9_left 11 = .ok (.ireturn, 1) := by decide +kernel
theorem dX9_left_12 : decode cX9_left 12 = .ok (.aload_n 0, 1) := by decide +kernel
theorem dX9_left_13 : decode cX9_left 13 = .ok (.invokevirtual 208, 3) := by decide +kernel
theorem dX9_left_16 : decode cX9_left 16 = .ok (.aload_n 0, 1) := by decide +kernel
theorem dX9_left_17 : decode cX9_left 17 = .ok (.iload_n 1, 1) := by decide +kernel
theorem dX9_left_18 : decode cX9_left 18 = .ok (.invokevirtual 211, 3) := by decide +kernel
theorem dX9_left_21 : decode cX9_left 21 = .ok (.pop, 1) := by decide +kernel
theorem dX9_left_22 : decode cX9_left 22 = .ok (.aload_n 0, 1) := by decide +kernel
theorem dX9_left_23 : decode cX9_left 23 = .ok (.getfield 161, 3) := by decide +kernel
theorem dX9_left_26 : decode cX9_left 26 = .ok (.ireturn, 1) := by decide +kernel
theorem dX9_next_0 : decode cX9_next 0 = .ok (.aload_n 0, 1) := by decide +kernel
theorem dX9_next_1 : decode cX9_next 1 = .ok (.iload_n 1, 1) := by decide +kernel
theorem dX9_next_2 : decode cX9_next 2 = .ok (.invokevirtual 193, 3) := by decide +kernel
theorem dX9_next_5 : decode cX9_next 5 = .ok (.ifCond .ne 6, 3) := by decide +kernel
theorem dX9_next_8 : decode cX9_next 8 = .ok (.ldc 70, 2) := by decide +kernel
theorem dX9_next_10 : decode cX9_next 10 = .ok (.ireturn, 1) := by decide +kernel
theorem dX9_next_11 : decode cX9_next 11 = .ok (.aload_n 0, 1) := by decide +kernel
theorem dX9_next_12 : decode cX9_next 12 = .ok (.invokevirtual 208, 3) := by decide +kernel
theorem dX9_next_15 : decode cX9_next 15 = .ok (.iconst 0, 1) := by decide +kernel
theorem dX9_next_16 : decode cX9_next 16 = .ok (.istore_n 2, 1) := by decide +kernel
theorem dX9_next_17 : decode cX9_next 17 = .ok (.iload_n 2, 1) := by decide +kernel
theorem dX9_next_18 : decode cX9_next 18 = .ok (.bipush 61, 2) := by decide +kernel
theorem dX9_next_20 : decode cX9_next 20 = .ok (.if_icmp .ge 20, 3) := by decide +kernel
theorem dX9_next_23 : decode cX9_next 23 = .ok (.aload_n 0, 1) := by decide +kernel
theorem dX9_next_24 : decode cX9_next 24 = .ok (.iload_n 2, 1) := by decide +kernel
theorem dX9_next_25 : decode cX9_next 25 = .ok (.invokevirtual 211, 3) := by decide +kernel
theorem dX9_next_28 : decode cX9_next 28 = .ok (.iload_n 1, 1) := by decide +kernel
theorem dX9_next_29 : decode cX9_next 29 = .ok (.if_icmp .ne 5, 3) := by decide +kernel
theorem dX9_next_32 : decode cX9_next 32 = .ok (.iload_n 2, 1) := by decide +kernel
theorem dX9_next_33 : decode cX9_next 33 = .ok (.ireturn, 1) := by decide +kernel
theorem dX9_next_34 : decode cX9_next 34 = .ok (.iinc 2 1, 3) := by decide +kernel
theorem dX9_next_37 : decode cX9_next 37 = .ok (.goto (-20), 3) := by decide +kernel
theorem dX9_next_40 : decode cX9_next 40 = .ok (.ldc 128, 2) := by decide +kernel
theorem dX9_next_42 : decode cX9_next 42 = .ok (.ireturn, 1) := by decide +kernel
theorem dX9_oftenTried_0 : decode cX9_oftenTried 0 = .ok (.iconst 0, 1) := by decide +kernel
theorem dX9_oftenTried_1 : decode cX9_oftenTried 1 = .ok (.istore_n 3, 1) := by decide +kernel
theorem dX9_oftenTried_2 : decode cX9_oftenTried 2 = .ok (.iconst 0, 1) := by decide +kernel
theorem dX9_oftenTried_3 : decode cX9_oftenTried 3 = .ok (.istore 4, 2) := by decide +kernel
theorem dX9_oftenTried_5 : decode cX9_oftenTried 5 = .ok (.iload 4, 2) := by decide +kernel
theorem dX9_oftenTried_7 : decode cX9_oftenTried 7 = .ok (.iload_n 2, 1) := by decide +kernel
theorem dX9_oftenTried_8 : decode cX9_oftenTried 8 = .ok (.if_icmp .ge 27, 3) := by decide +kernel
theorem dX9_oftenTried_11 : decode cX9_oftenTried 11 = .ok (.iload_n 3, 1) := by decide +kernel
theorem dX9_oftenTried_12 : decode cX9_oftenTried 12 = .ok (.aload_n 0, 1) := by decide +kernel
theorem dX9_oftenTried_13 : decode cX9_oftenTried 13 = .ok (.iload 4, 2) := by decide +kernel
theorem dX9_oftenTried_15 : decode cX9_oftenTried 15 = .ok (.invokevirtual 211, 3) := by decide +kernel
theorem dX9_oftenTried_18 : decode cX9_oftenTried 18 = .ok (.iload_n 1, 1) := by decide +kernel
theorem dX9_oftenTried_19 : decode cX9_oftenTried 19 = .ok (.if_icmp .ne 7, 3) := by decide +kernel
theorem dX9_oftenTried_22 : decode cX9_oftenTried 22 = .ok (.iconst 1, 1) := by decide +kernel
theorem dX9_oftenTried_23 : decode cX9_oftenTried 23 = .ok (.goto 4, 3) := by decide +kernel
theorem dX9_oftenTried_26 : decode cX9_oftenTried 26 = .ok (.iconst 0, 1) := by decide +kernel
theorem dX9_oftenTried_27 : decode cX9_oftenTried 27 = .ok (.iadd, 1) := by decide +kernel
theorem dX9_oftenTried_28 : decode cX9_oftenTried 28 = .ok (.istore_n 3, 1) := by decide +kernel
theorem dX9_oftenTried_29 : decode cX9_oftenTried 29 = .ok (.iinc 4 1, 3) := by decide +kernel
theorem dX9_oftenTried_32 : decode cX9_oftenTried 32 = .ok (.goto (-27), 3) := by decide +kernel
theorem dX9_oftenTried_35 : decode cX9_oftenTried 35 = .ok (.iload_n 3, 1) := by decide +kernel
theorem dX9_oftenTried_36 : decode cX9_oftenTried 36 = .ok (.ireturn, 1) := by decide +kernel
theorem dX9_often_0 : decode cX9_often 0 = .ok (.aload_n 0, 1) := by decide +kernel
theorem dX9_often_1 : decode cX9_often 1 = .ok (.iload_n 1, 1) := by decide +kernel
theorem dX9_often_2 : decode cX9_often 2 = .ok (.invokevirtual 193, 3) := by decide +kernel
theorem dX9_often_5 : decode cX9_often 5 = .ok (.ifCond .eq 15, 3) := by decide +kernel
theorem dX9_often_8 : decode cX9_often 8 = .ok (.iload_n 2, 1) := by decide +kernel
theorem dX9_often_9 : decode cX9_often 9 = .ok (.i2l, 1) := by decide +kernel
theorem dX9_often_10 : decode cX9_often 10 = .ok (.lconst 1, 1) := by decide +kernel
theorem dX9_often_11 : decode cX9_often 11 = .ok (.ldc2_w 203, 3) := by decide +kernel
theorem dX9_often_14 : decode cX9_often 14 = .ok (.invokestatic 60, 3) := by decide +kernel
theorem dX9_often_17 : decode cX9_often 17 = .ok (.ifCond .ne 6, 3) := by decide +kernel
theorem dX9_often_20 : decode cX9_often 20 = .ok (.ldc 70, 2) := by decide +kernel
theorem dX9_often_22 : decode cX9_often 22 = .ok (.ireturn, 1) := by decide +kernel
theorem dX9_often_23 : decode cX9_often 23 = .ok (.aload_n 0, 1) := by decide +kernel
theorem dX9_often_24 : decode cX9_often 24 = .ok (.invokevirtual 208, 3) := by decide +kernel
theorem dX9_often_27 : decode cX9_often 27 = .ok (.aload_n 0, 1) := by decide +kernel
theorem dX9_often_28 : decode cX9_often 28 = .ok (.iload_n 1, 1) := by decide +kernel
theorem dX9_often_29 : decode cX9_often 29 = .ok (.iload_n 2, 1) := by decide +kernel
theorem dX9_often_30 : decode cX9_often 30 = .ok (.invokevirtual 214, 3) := by decide +kernel
theorem dX9_often_33 : decode cX9_often 33 = .ok (.ireturn, 1) := by decide +kernel
theorem dX9_restsOtherwise_0 : decode cX9_restsOtherwise 0 = .ok (.aload_n 0, 1) := by decide +kernel
theorem dX9_restsOtherwise_1 : decode cX9_restsOtherwise 1 = .ok (.invokevirtual 208, 3) := by decide +kernel
theorem dX9_restsOtherwise_4 : decode cX9_restsOtherwise 4 = .ok (.aload_n 0, 1) := by decide +kernel
theorem dX9_restsOtherwise_5 : decode cX9_restsOtherwise 5 = .ok (.getfield 7, 3) := by decide +kernel
theorem dX9_restsOtherwise_8 : decode cX9_restsOtherwise 8 = .ok (.sipush 1061, 3) := by decide +kernel
theorem dX9_restsOtherwise_11 : decode cX9_restsOtherwise 11 = .ok (.aload_n 0, 1) := by decide +kernel
theorem dX9_restsOtherwise_12 : decode cX9_restsOtherwise 12 = .ok (.getfield 7, 3) := by decide +kernel
theorem dX9_restsOtherwise_15 : decode cX9_restsOtherwise 15 = .ok (.bipush 8, 2) := by decide +kernel
theorem dX9_restsOtherwise_17 : decode cX9_restsOtherwise 17 = .ok (.iaload, 1) := by decide +kernel
theorem dX9_restsOtherwise_18 : decode cX9_restsOtherwise 18 = .ok (.iload_n 1, 1) := by decide +kernel
theorem dX9_restsOtherwise_19 : decode cX9_restsOtherwise 19 = .ok (.ixor, 1) := by decide +kernel
theorem dX9_restsOtherwise_20 : decode cX9_restsOtherwise 20 = .ok (.iastore, 1) := by decide +kernel
theorem dX9_restsOtherwise_21 : decode cX9_restsOtherwise 21 = .ok (.aload_n 0, 1) := by decide +kernel
theorem dX9_restsOtherwise_22 : decode cX9_restsOtherwise 22 = .ok (.iload_n 2, 1) := by decide +kernel
theorem dX9_restsOtherwise_23 : decode cX9_restsOtherwise 23 = .ok (.invokevirtual 211, 3) := by decide +kernel
theorem dX9_restsOtherwise_26 : decode cX9_restsOtherwise 26 = .ok (.ireturn, 1) := by decide +kernel
theorem dX9_fewest_0 : decode cX9_fewest 0 = .ok (.ldc 128, 2) := by decide +kernel
theorem dX9_fewest_2 : decode cX9_fewest 2 = .ok (.istore 4, 2) := by decide +kernel
theorem dX9_fewest_4 : decode cX9_fewest 4 = .ok (.iconst 0, 1) := by decide +kernel
theorem dX9_fewest_5 : decode cX9_fewest 5 = .ok (.istore 5, 2) := by decide +kernel
theorem dX9_fewest_7 : decode cX9_fewest 7 = .ok (.iload 5, 2) := by decide +kernel
theorem dX9_fewest_9 : decode cX9_fewest 9 = .ok (.iconst 1, 1) := by decide +kernel
theorem dX9_fewest_10 : decode cX9_fewest 10 = .ok (.aload_n 0, 1) := by decide +kernel
theorem dX9_fewest_11 : decode cX9_fewest 11 = .ok (.getfield 7, 3) := by decide +kernel
theorem dX9_fewest_14 : decode cX9_fewest 14 = .ok (.iconst 1, 1) := by decide +kernel
theorem dX9_fewest_15 : decode cX9_fewest 15 = .ok (.iaload, 1) := by decide +kernel
theorem dX9_fewest_16 : decode cX9_fewest 16 = .ok (.ishl, 1) := by decide +kernel
theorem dX9_fewest_17 : decode cX9_fewest 17 = .ok (.if_icmp .ge 84, 3) := by decide +kernel
theorem dX9_fewest_20 : decode cX9_fewest 20 = .ok (.aload_n 0, 1) := by decide +kernel
theorem dX9_fewest_21 : decode cX9_fewest 21 = .ok (.iload 5, 2) := by decide +kernel
theorem dX9_fewest_23 : decode cX9_fewest 23 = .ok (.iload_n 3, 1) := by decide +kernel
theorem dX9_fewest_24 : decode cX9_fewest 24 = .ok (.invokevirtual 217, 3) := by decide +kernel
theorem dX9_fewest_27 : decode cX9_fewest 27 = .ok (.istore 6, 2) := by decide +kernel
theorem dX9_fewest_29 : decode cX9_fewest 29 = .ok (.iload 6, 2) := by decide +kernel
theorem dX9_fewest_31 : decode cX9_fewest 31 = .ok (.ldc 128, 2) := by decide +kernel
theorem dX9_fewest_33 : decode cX9_fewest 33 = .ok (.if_icmp .eq 16, 3) := by decide +kernel
theorem dX9_fewest_36 : decode cX9_fewest 36 = .ok (.iload_n 1, 1) := by decide +kernel
theorem dX9_fewest_37 : decode cX9_fewest 37 = .ok (.iload 6, 2) := by decide +kernel
theorem dX9_fewest_39 : decode cX9_fewest 39 = .ok (.invokestatic 158, 3) := by decide +kernel
theorem dX9_fewest_42 : decode cX9_fewest 42 = .ok (.ifCond .eq 7, 3) := by decide +kernel
theorem dX9_fewest_45 : decode cX9_fewest 45 = .ok (.iconst 1, 1) := by decide +kernel
theorem dX9_fewest_46 : decode cX9_fewest 46 = .ok (.goto 4, 3) := by decide +kernel
theorem dX9_fewest_49 : decode cX9_fewest 49 = .ok (.iconst 0, 1) := by decide +kernel
theorem dX9_fewest_50 : decode cX9_fewest 50 = .ok (.iload_n 2, 1) := by decide +kernel
theorem dX9_fewest_51 : decode cX9_fewest 51 = .ok (.if_icmp .ne 7, 3) := by decide +kernel
theorem dX9_fewest_54 : decode cX9_fewest 54 = .ok (.iconst 1, 1) := by decide +kernel
theorem dX9_fewest_55 : decode cX9_fewest 55 = .ok (.goto 4, 3) := by decide +kernel
theorem dX9_fewest_58 : decode cX9_fewest 58 = .ok (.iconst 0, 1) := by decide +kernel
theorem dX9_fewest_59 : decode cX9_fewest 59 = .ok (.istore 7, 2) := by decide +kernel
theorem dX9_fewest_61 : decode cX9_fewest 61 = .ok (.iload 7, 2) := by decide +kernel
theorem dX9_fewest_63 : decode cX9_fewest 63 = .ok (.ifCond .eq 28, 3) := by decide +kernel
theorem dX9_fewest_66 : decode cX9_fewest 66 = .ok (.iload 4, 2) := by decide +kernel
theorem dX9_fewest_68 : decode cX9_fewest 68 = .ok (.ldc 128, 2) := by decide +kernel
theorem dX9_fewest_70 : decode cX9_fewest 70 = .ok (.if_icmp .eq 16, 3) := by decide +kernel
theorem dX9_fewest_73 : decode cX9_fewest 73 = .ok (.iload 5, 2) := by decide +kernel
theorem dX9_fewest_75 : decode cX9_fewest 75 = .ok (.invokestatic 220, 3) := by decide +kernel
theorem dX9_fewest_78 : decode cX9_fewest 78 = .ok (.iload 4, 2) := by decide +kernel
theorem dX9_fewest_80 : decode cX9_fewest 80 = .ok (.invokestatic 220, 3) := by decide +kernel
theorem dX9_fewest_83 : decode cX9_fewest 83 = .ok (.if_icmp .ge 8, 3) := by decide +kernel
theorem dX9_fewest_86 : decode cX9_fewest 86 = .ok (.iload 5, 2) := by decide +kernel
theorem dX9_fewest_88 : decode cX9_fewest 88 = .ok (.goto 5, 3) := by decide +kernel
theorem dX9_fewest_91 : decode cX9_fewest 91 = .ok (.iload 4, 2) := by decide +kernel
theorem dX9_fewest_93 : decode cX9_fewest 93 = .ok (.istore 4, 2) := by decide +kernel
theorem dX9_fewest_95 : decode cX9_fewest 95 = .ok (.iinc 5 1, 3) := by decide +kernel
theorem dX9_fewest_98 : decode cX9_fewest 98 = .ok (.goto (-91), 3) := by decide +kernel
theorem dX9_fewest_101 : decode cX9_fewest 101 = .ok (.iload 4, 2) := by decide +kernel
theorem dX9_fewest_103 : decode cX9_fewest 103 = .ok (.ireturn, 1) := by decide +kernel
theorem dX9_aim_0 : decode cX9_aim 0 = .ok (.aload_n 0, 1) := by decide +kernel
theorem dX9_aim_1 : decode cX9_aim 1 = .ok (.iload_n 1, 1) := by decide +kernel
theorem dX9_aim_2 : decode cX9_aim 2 = .ok (.invokevirtual 193, 3) := by decide +kernel
theorem dX9_aim_5 : decode cX9_aim 5 = .ok (.ifCond .eq 25, 3) := by decide +kernel
theorem dX9_aim_8 : decode cX9_aim 8 = .ok (.iload_n 2, 1) := by decide +kernel
theorem dX9_aim_9 : decode cX9_aim 9 = .ok (.i2l, 1) := by decide +kernel
theorem dX9_aim_10 : decode cX9_aim 10 = .ok (.lconst 0, 1) := by decide +kernel
theorem dX9_aim_11 : decode cX9_aim 11 = .ok (.ldc2_w 203, 3) := by decide +kernel
theorem dX9_aim_14 : decode cX9_aim 14 = .ok (.invokestatic 60, 3) := by decide +kernel
theorem dX9_aim_17 : decode cX9_aim 17 = .ok (.ifCond .eq 13, 3) := by decide +kernel
theorem dX9_aim_20 : decode cX9_aim 20 = .ok (.iload_n 3, 1) := by decide +kernel
theorem dX9_aim_21 : decode cX9_aim 21 = .ok (.i2l, 1) := by decide +kernel
theorem dX9_aim_22 : decode cX9_aim 22 = .ok (.lconst 0, 1) := by decide +kernel
theorem dX9_aim_23 : decode cX9_aim 23 = .ok (.lconst 1, 1) := by decide +kernel
theorem dX9_aim_24 : decode cX9_aim 24 = .ok (.invokestatic 60, 3) := by decide +kernel
theorem dX9_aim_27 : decode cX9_aim 27 = .ok (.ifCond .ne 6, 3) := by decide +kernel
theorem dX9_aim_30 : decode cX9_aim 30 = .ok (.ldc 70, 2) := by decide +kernel
theorem dX9_aim_32 : decode cX9_aim 32 = .ok (.ireturn, 1) := by decide +kernel
theorem dX9_aim_33 : decode cX9_aim 33 = .ok (.aload_n 0, 1) := by decide +kernel
theorem dX9_aim_34 : decode cX9_aim 34 = .ok (.iconst 1, 1) := by decide +kernel
theorem dX9_aim_35 : decode cX9_aim 35 = .ok (.iload_n 1, 1) := by decide +kernel
theorem dX9_aim_36 : decode cX9_aim 36 = .ok (.ishl, 1) := by decide +kernel
theorem dX9_aim_37 : decode cX9_aim 37 = .ok (.iconst 1, 1) := by decide +kernel
theorem dX9_aim_38 : decode cX9_aim 38 = .ok (.iload_n 2, 1) := by decide +kernel
theorem dX9_aim_39 : decode cX9_aim 39 = .ok (.invokevirtual 223, 3) := by decide +kernel
theorem dX9_aim_42 : decode cX9_aim 42 = .ok (.istore 4, 2) := by decide +kernel
theorem dX9_aim_44 : decode cX9_aim 44 = .ok (.iload 4, 2) := by decide +kernel
theorem dX9_aim_46 : decode cX9_aim 46 = .ok (.ldc 128, 2) := by decide +kernel
theorem dX9_aim_48 : decode cX9_aim 48 = .ok (.if_icmp .eq 8, 3) := by decide +kernel
theorem dX9_aim_51 : decode cX9_aim 51 = .ok (.iload_n 3, 1) := by decide +kernel
theorem dX9_aim_52 : decode cX9_aim 52 = .ok (.iconst 1, 1) := by decide +kernel
theorem dX9_aim_53 : decode cX9_aim 53 = .ok (.if_icmp .ne 8, 3) := by decide +kernel
theorem dX9_aim_56 : decode cX9_aim 56 = .ok (.iload 4, 2) := by decide +kernel
theorem dX9_aim_58 : decode cX9_aim 58 = .ok (.goto 8, 3) := by decide +kernel
theorem dX9_aim_61 : decode cX9_aim 61 = .ok (.iload 4, 2) := by decide +kernel
theorem dX9_aim_63 : decode cX9_aim 63 = .ok (.invokestatic 220, 3) := by decide +kernel
theorem dX9_aim_66 : decode cX9_aim 66 = .ok (.ireturn, 1) := by decide +kernel
theorem dX9_shun_0 : decode cX9_shun 0 = .ok (.aload_n 0, 1) := by decide +kernel
theorem dX9_shun_1 : decode cX9_shun 1 = .ok (.getfield 150, 3) := by decide +kernel
theorem dX9_shun_4 : decode cX9_shun 4 = .ok (.ifCond .ne 6, 3) := by decide +kernel
theorem dX9_shun_7 : decode cX9_shun 7 = .ok (.ldc 157, 2) := by decide +kernel
theorem dX9_shun_9 : decode cX9_shun 9 = .ok (.ireturn, 1) := by decide +kernel
theorem dX9_shun_10 : decode cX9_shun 10 = .ok (.iload_n 1, 1) := by decide +kernel
theorem dX9_shun_11 : decode cX9_shun 11 = .ok (.i2l, 1) := by decide +kernel
theorem dX9_shun_12 : decode cX9_shun 12 = .ok (.lconst 0, 1) := by decide +kernel
theorem dX9_shun_13 : decode cX9_shun 13 = .ok (.iconst 1, 1) := by decide +kernel
theorem dX9_shun_14 : decode cX9_shun 14 = .ok (.aload_n 0, 1) := by decide +kernel
theorem dX9_shun_15 : decode cX9_shun 15 = .ok (.getfield 7, 3) := by decide +kernel
theorem dX9_shun_18 : decode cX9_shun 18 = .ok (.iconst 1, 1) := by decide +kernel
theorem dX9_shun_19 : decode cX9_shun 19 = .ok (.iaload, 1) := by decide +kernel
theorem dX9_shun_20 : decode cX9_shun 20 = .ok (.ishl, 1) := by decide +kernel
theorem dX9_shun_21 : decode cX9_shun 21 = .ok (.iconst 1, 1) := by decide +kernel
theorem dX9_shun_22 : decode cX9_shun 22 = .ok (.isub, 1) := by decide +kernel
theorem dX9_shun_23 : decode cX9_shun 23 = .ok (.i2l, 1) := by decide +kernel
theorem dX9_shun_24 : decode cX9_shun 24 = .ok (.invokestatic 60, 3) := by decide +kernel
theorem dX9_shun_27 : decode cX9_shun 27 = .ok (.ifCond .eq 25, 3) := by decide +kernel
theorem dX9_shun_30 : decode cX9_shun 30 = .ok (.iload_n 2, 1) := by decide +kernel
theorem dX9_shun_31 : decode cX9_shun 31 = .ok (.i2l, 1) := by decide +kernel
theorem dX9_shun_32 : decode cX9_shun 32 = .ok (.lconst 0, 1) := by decide +kernel
theorem dX9_shun_33 : decode cX9_shun 33 = .ok (.ldc2_w 203, 3) := by decide +kernel
theorem dX9_shun_36 : decode cX9_shun 36 = .ok (.invokestatic 60, 3) := by decide +kernel
theorem dX9_shun_39 : decode cX9_shun 39 = .ok (.ifCond .eq 13, 3) := by decide +kernel
theorem dX9_shun_42 : decode cX9_shun 42 = .ok (.iload_n 3, 1) := by decide +kernel
theorem dX9_shun_43 : decode cX9_shun 43 = .ok (.i2l, 1) := by decide +kernel
theorem dX9_shun_44 : decode cX9_shun 44 = .ok (.lconst 0, 1) := by decide +kernel
theorem dX9_shun_45 : decode cX9_shun 45 = .ok (.lconst 1, 1) := by decide +kernel
theorem dX9_shun_46 : decode cX9_shun 46 = .ok (.invokestatic 60, 3) := by decide +kernel
theorem dX9_shun_49 : decode cX9_shun 49 = .ok (.ifCond .ne 6, 3) := by decide +kernel
theorem dX9_shun_52 : decode cX9_shun 52 = .ok (.ldc 70, 2) := by decide +kernel
theorem dX9_shun_54 : decode cX9_shun 54 = .ok (.ireturn, 1) := by decide +kernel
theorem dX9_shun_55 : decode cX9_shun 55 = .ok (.aload_n 0, 1) := by decide +kernel
theorem dX9_shun_56 : decode cX9_shun 56 = .ok (.iload_n 1, 1) := by decide +kernel
theorem dX9_shun_57 : decode cX9_shun 57 = .ok (.iconst 0, 1) := by decide +kernel
theorem dX9_shun_58 : decode cX9_shun 58 = .ok (.iload_n 2, 1) := by decide +kernel
theorem dX9_shun_59 : decode cX9_shun 59 = .ok (.invokevirtual 223, 3) := by decide +kernel
theorem dX9_shun_62 : decode cX9_shun 62 = .ok (.istore 4, 2) := by decide +kernel
theorem dX9_shun_64 : decode cX9_shun 64 = .ok (.iload 4, 2) := by decide +kernel
theorem dX9_shun_66 : decode cX9_shun 66 = .ok (.ldc 128, 2) := by decide +kernel
theorem dX9_shun_68 : decode cX9_shun 68 = .ok (.if_icmp .eq 8, 3) := by decide +kernel
theorem dX9_shun_71 : decode cX9_shun 71 = .ok (.iload_n 3, 1) := by decide +kernel
theorem dX9_shun_72 : decode cX9_shun 72 = .ok (.iconst 1, 1) := by decide +kernel
theorem dX9_shun_73 : decode cX9_shun 73 = .ok (.if_icmp .ne 8, 3) := by decide +kernel
theorem dX9_shun_76 : decode cX9_shun 76 = .ok (.iload 4, 2) := by decide +kernel
theorem dX9_shun_78 : decode cX9_shun 78 = .ok (.goto 8, 3) := by decide +kernel
theorem dX9_shun_81 : decode cX9_shun 81 = .ok (.iload 4, 2) := by decide +kernel
theorem dX9_shun_83 : decode cX9_shun 83 = .ok (.invokestatic 220, 3) := by decide +kernel
theorem dX9_shun_86 : decode cX9_shun 86 = .ok (.ireturn, 1) := by decide +kernel
theorem dX9_site_0 : decode cX9_site 0 = .ok (.aload_n 0, 1) := by decide +kernel
theorem dX9_site_1 : decode cX9_site 1 = .ok (.iload_n 1, 1) := by decide +kernel
theorem dX9_site_2 : decode cX9_site 2 = .ok (.invokevirtual 193, 3) := by decide +kernel
theorem dX9_site_5 : decode cX9_site 5 = .ok (.ifCond .eq 27, 3) := by decide +kernel
theorem dX9_site_8 : decode cX9_site 8 = .ok (.iload_n 2, 1) := by decide +kernel
theorem dX9_site_9 : decode cX9_site 9 = .ok (.i2l, 1) := by decide +kernel
theorem dX9_site_10 : decode cX9_site 10 = .ok (.lconst 1, 1) := by decide +kernel
theorem dX9_site_11 : decode cX9_site 11 = .ok (.ldc2_w 227, 3) := by decide +kernel
theorem dX9_site_14 : decode cX9_site 14 = .ok (.invokestatic 60, 3) := by decide +kernel
theorem dX9_site_17 : decode cX9_site 17 = .ok (.ifCond .eq 15, 3) := by decide +kernel
theorem dX9_site_20 : decode cX9_site 20 = .ok (.iload_n 3, 1) := by decide +kernel
theorem dX9_site_21 : decode cX9_site 21 = .ok (.i2l, 1) := by decide +kernel
theorem dX9_site_22 : decode cX9_site 22 = .ok (.lconst 0, 1) := by decide +kernel
theorem dX9_site_23 : decode cX9_site 23 = .ok (.ldc2_w 68, 3) := by decide +kernel
theorem dX9_site_26 : decode cX9_site 26 = .ok (.invokestatic 60, 3) := by decide +kernel
theorem dX9_site_29 : decode cX9_site 29 = .ok (.ifCond .ne 6, 3) := by decide +kernel
theorem dX9_site_32 : decode cX9_site 32 = .ok (.ldc 70, 2) := by decide +kernel
theorem dX9_site_34 : decode cX9_site 34 = .ok (.ireturn, 1) := by decide +kernel
theorem dX9_site_35 : decode cX9_site 35 = .ok (.iconst (-1), 1) := by decide +kernel
theorem dX9_site_36 : decode cX9_site 36 = .ok (.istore 4, 2) := by decide +kernel
theorem dX9_site_38 : decode cX9_site 38 = .ok (.iconst 0, 1) := by decide +kernel
theorem dX9_site_39 : decode cX9_site 39 = .ok (.istore 5, 2) := by decide +kernel
theorem dX9_site_41 : decode cX9_site 41 = .ok (.iconst 0, 1) := by decide +kernel
theorem dX9_site_42 : decode cX9_site 42 = .ok (.istore 6, 2) := by decide +kernel
theorem dX9_site_44 : decode cX9_site 44 = .ok (.aload_n 0, 1) := by decide +kernel
theorem dX9_site_45 : decode cX9_site 45 = .ok (.invokevirtual 208, 3) := by decide +kernel
theorem dX9_site_48 : decode cX9_site 48 = .ok (.iconst 1, 1) := by decide +kernel
theorem dX9_site_49 : decode cX9_site 49 = .ok (.istore 7, 2) := by decide +kernel
theorem dX9_site_51 : decode cX9_site 51 = .ok (.iload 7, 2) := by decide +kernel
theorem dX9_site_53 : decode cX9_site 53 = .ok (.aload_n 0, 1) := by decide +kernel
theorem dX9_site_54 : decode cX9_site 54 = .ok (.getfield 7, 3) := by decide +kernel
theorem dX9_site_57 : decode cX9_site 57 = .ok (.iconst 0, 1) := by decide +kernel
theorem dX9_site_58 : decode cX9_site 58 = .ok (.iaload, 1) := by decide +kernel
theorem dX9_site_59 : decode cX9_site 59 = .ok (.if_icmp .gt 104, 3) := by decide +kernel
theorem dX9_site_62 : decode cX9_site 62 = .ok (.iconst 0, 1) := by decide +kernel
theorem dX9_site_63 : decode cX9_site 63 = .ok (.istore 8, 2) := by decide +kernel
theorem dX9_site_65 : decode cX9_site 65 = .ok (.iload 8, 2) := by decide +kernel
theorem dX9_site_67 : decode cX9_site 67 = .ok (.bipush 7, 2) := by decide +kernel
theorem dX9_site_69 : decode cX9_site 69 = .ok (.if_icmp .ge 88, 3) := by decide +kernel
theorem dX9_site_72 : decode cX9_site 72 = .ok (.aload_n 0, 1) := by decide +kernel
theorem dX9_site_73 : decode cX9_site 73 = .ok (.iconst 0, 1) := by decide +kernel
theorem dX9_site_74 : decode cX9_site 74 = .ok (.iload 7, 2) := by decide +kernel
theorem dX9_site_76 : decode cX9_site 76 = .ok (.iload 8, 2) := by decide +kernel
theorem dX9_site_78 : decode cX9_site 78 = .ok (.invokevirtual 124, 3) := by decide +kernel
theorem dX9_site_81 : decode cX9_site 81 = .ok (.istore 9, 2) := by decide +kernel
theorem dX9_site_83 : decode cX9_site 83 = .ok (.aload_n 0, 1) := by decide +kernel
theorem dX9_site_84 : decode cX9_site 84 = .ok (.getfield 7, 3) := by decide +kernel
theorem dX9_site_87 : decode cX9_site 87 = .ok (.sipush 1068, 3) := by decide +kernel
theorem dX9_site_90 : decode cX9_site 90 = .ok (.iload_n 1, 1) := by decide +kernel
theorem dX9_site_91 : decode cX9_site 91 = .ok (.iadd, 1) := by decide +kernel
theorem dX9_site_92 : decode cX9_site 92 = .ok (.iload 7, 2) := by decide +kernel
theorem dX9_site_94 : decode cX9_site 94 = .ok (.iastore, 1) := by decide +kernel
theorem dX9_site_95 : decode cX9_site 95 = .ok (.aload_n 0, 1) := by decide +kernel
theorem dX9_site_96 : decode cX9_site 96 = .ok (.getfield 7, 3) := by decide +kernel
theorem dX9_site_99 : decode cX9_site 99 = .ok (.sipush 1074, 3) := by decide +kernel
theorem dX9_site_102 : decode cX9_site 102 = .ok (.iload_n 1, 1) := by decide +kernel
theorem dX9_site_103 : decode cX9_site 103 = .ok (.iadd, 1) := by decide +kernel
theorem dX9_site_104 : decode cX9_site 104 = .ok (.iload 8, 2) := by decide +kernel
theorem dX9_site_106 : decode cX9_site 106 = .ok (.iastore, 1) := by decide +kernel
theorem dX9_site_107 : decode cX9_site 107 = .ok (.iload 9, 2) := by decide +kernel
theorem dX9_site_109 : decode cX9_site 109 = .ok (.ldc 128, 2) := by decide +kernel
theorem dX9_site_111 : decode cX9_site 111 = .ok (.if_icmp .eq 9, 3) := by decide +kernel
theorem dX9_site_114 : decode cX9_site 114 = .ok (.iload 9, 2) := by decide +kernel
theorem dX9_site_116 : decode cX9_site 116 = .ok (.iload_n 1, 1) := by decide +kernel
theorem dX9_site_117 : decode cX9_site 117 = .ok (.if_icmp .ne 12, 3) := by decide +kernel
theorem dX9_site_120 : decode cX9_site 120 = .ok (.aload_n 0, 1) := by decide +kernel
theorem dX9_site_121 : decode cX9_site 121 = .ok (.iload_n 1, 1) := by decide +kernel
theorem dX9_site_122 : decode cX9_site 122 = .ok (.iload_n 2, 1) := by decide +kernel
theorem dX9_site_123 : decode cX9_site 123 = .ok (.invokevirtual 214, 3) := by decide +kernel
theorem dX9_site_126 : decode cX9_site 126 = .ok (.goto 4, 3) := by decide +kernel
theorem dX9_site_129 : decode cX9_site 129 = .ok (.iconst (-1), 1) := by decide +kernel
theorem dX9_site_130 : decode cX9_site 130 = .ok (.istore 10, 2) := by decide +kernel
theorem dX9_site_132 : decode cX9_site 132 = .ok (.iload 10, 2) := by decide +kernel
theorem dX9_site_134 : decode cX9_site 134 = .ok (.iload 4, 2) := by decide +kernel
theorem dX9_site_136 : decode cX9_site 136 = .ok (.if_icmp .le 15, 3) := by decide +kernel
theorem dX9_site_139 : decode cX9_site 139 = .ok (.iload 10, 2) := by decide +kernel
theorem dX9_site_141 : decode cX9_site 141 = .ok (.istore 4, 2) := by decide +kernel
theorem dX9_site_143 : decode cX9_site 143 = .ok (.iload 7, 2) := by decide +kernel
theorem dX9_site_145 : decode cX9_site 145 = .ok (.istore 5, 2) := by decide +kernel
theorem dX9_site_147 : decode cX9_site 147 = .ok (.iload 8, 2) := by decide +kernel
theorem dX9_site_149 : decode cX9_site 149 = .ok (.istore 6, 2) := by decide +kernel
theorem dX9_site_151 : decode cX9_site 151 = .ok (.iinc 8 1, 3) := by decide +kernel
theorem dX9_site_154 : decode cX9_site 154 = .ok (.goto (-89), 3) := by decide +kernel
theorem dX9_site_157 : decode cX9_site 157 = .ok (.iinc 7 1, 3) := by decide +kernel
theorem dX9_site_160 : decode cX9_site 160 = .ok (.goto (-109), 3) := by decide +kernel
theorem dX9_site_163 : decode cX9_site 163 = .ok (.iload_n 3, 1) := by decide +kernel
theorem dX9_site_164 : decode cX9_site 164 = .ok (.ifCond .ne 8, 3) := by decide +kernel
theorem dX9_site_167 : decode cX9_site 167 = .ok (.iload 5, 2) := by decide +kernel
theorem dX9_site_169 : decode cX9_site 169 = .ok (.goto 15, 3) := by decide +kernel
theorem dX9_site_172 : decode cX9_site 172 = .ok (.iload_n 3, 1) := by decide +kernel
theorem dX9_site_173 : decode cX9_site 173 = .ok (.iconst 1, 1) := by decide +kernel
theorem dX9_site_174 : decode cX9_site 174 = .ok (.if_icmp .ne 8, 3) := by decide +kernel
theorem dX9_site_177 : decode cX9_site 177 = .ok (.iload 6, 2) := by decide +kernel
theorem dX9_site_179 : decode cX9_site 179 = .ok (.goto 5, 3) := by decide +kernel
theorem dX9_site_182 : decode cX9_site 182 = .ok (.iload 4, 2) := by decide +kernel
theorem dX9_site_184 : decode cX9_site 184 = .ok (.ireturn, 1) := by decide +kernel
theorem dX9_sulksTried_0 : decode cX9_sulksTried 0 = .ok (.iconst 0, 1) := by decide +kernel
theorem dX9_sulksTried_1 : decode cX9_sulksTried 1 = .ok (.istore_n 1, 1) := by decide +kernel
theorem dX9_sulksTried_2 : decode cX9_sulksTried 2 = .ok (.aload_n 0, 1) := by decide +kernel
theorem dX9_sulksTried_3 : decode cX9_sulksTried 3 = .ok (.getfield 7, 3) := by decide +kernel
theorem dX9_sulksTried_6 : decode cX9_sulksTried 6 = .ok (.sipush 1061, 3) := by decide +kernel
theorem dX9_sulksTried_9 : decode cX9_sulksTried 9 = .ok (.iaload, 1) := by decide +kernel
theorem dX9_sulksTried_10 : decode cX9_sulksTried 10 = .ok (.istore_n 2, 1) := by decide +kernel
theorem dX9_sulksTried_11 : decode cX9_sulksTried 11 = .ok (.aload_n 0, 1) := by decide +kernel
theorem dX9_sulksTried_12 : decode cX9_sulksTried 12 = .ok (.sipush 1053, 3) := by decide +kernel
theorem dX9_sulksTried_15 : decode cX9_sulksTried 15 = .ok (.invokevirtual 182, 3) := by decide +kernel
theorem dX9_sulksTried_18 : decode cX9_sulksTried 18 = .ok (.istore_n 3, 1) := by decide +kernel
theorem dX9_sulksTried_19 : decode cX9_sulksTried 19 = .ok (.iconst 0, 1) := by decide +kernel
theorem dX9_sulksTried_20 : decode cX9_sulksTried 20 = .ok (.istore 4, 2) := by decide +kernel
theorem dX9_sulksTried_22 : decode cX9_sulksTried 22 = .ok (.iload 4, 2) := by decide +kernel
theorem dX9_sulksTried_24 : decode cX9_sulksTried 24 = .ok (.aload_n 0, 1) := by decide +kernel
theorem dX9_sulksTried_25 : decode cX9_sulksTried 25 = .ok (.getfield 7, 3) := by decide +kernel
theorem dX9_sulksTried_28 : decode cX9_sulksTried 28 = .ok (.iconst 1, 1) := by decide +kernel
theorem dX9_sulksTried_29 : decode cX9_sulksTried 29 = .ok (.iaload, 1) := by decide +kernel
theorem dX9_sulksTried_30 : decode cX9_sulksTried 30 = .ok (.if_icmp .ge 97, 3) := by decide +kernel
theorem dX9_sulksTried_33 : decode cX9_sulksTried 33 = .ok (.aload_n 0, 1) := by decide +kernel
theorem dX9_sulksTried_34 : decode cX9_sulksTried 34 = .ok (.getfield 7, 3) := by decide +kernel
theorem dX9_sulksTried_37 : decode cX9_sulksTried 37 = .ok (.sipush 1061, 3) := by decide +kernel
theorem dX9_sulksTried_40 : decode cX9_sulksTried 40 = .ok (.iload_n 2, 1) := by decide +kernel
theorem dX9_sulksTried_41 : decode cX9_sulksTried 41 = .ok (.iconst 1, 1) := by decide +kernel
theorem dX9_sulksTried_42 : decode cX9_sulksTried 42 = .ok (.iload 4, 2) := by decide +kernel
theorem dX9_sulksTried_44 : decode cX9_sulksTried 44 = .ok (.ishl, 1) := by decide +kernel
theorem dX9_sulksTried_45 : decode cX9_sulksTried 45 = .ok (.ixor, 1) := by decide +kernel
theorem dX9_sulksTried_46 : decode cX9_sulksTried 46 = .ok (.iastore, 1) := by decide +kernel
theorem dX9_sulksTried_47 : decode cX9_sulksTried 47 = .ok (.aload_n 0, 1) := by decide +kernel
theorem dX9_sulksTried_48 : decode cX9_sulksTried 48 = .ok (.sipush 1053, 3) := by decide +kernel
theorem dX9_sulksTried_51 : decode cX9_sulksTried 51 = .ok (.invokevirtual 182, 3) := by decide +kernel
theorem dX9_sulksTried_54 : decode cX9_sulksTried 54 = .ok (.iload 4, 2) := by decide +kernel
theorem dX9_sulksTried_56 : decode cX9_sulksTried 56 = .ok (.if_icmp .ne 7, 3) := by decide +kernel
theorem dX9_sulksTried_59 : decode cX9_sulksTried 59 = .ok (.iconst 1, 1) := by decide +kernel
theorem dX9_sulksTried_60 : decode cX9_sulksTried 60 = .ok (.goto 4, 3) := by decide +kernel
theorem dX9_sulksTried_63 : decode cX9_sulksTried 63 = .ok (.iconst 0, 1) := by decide +kernel
theorem dX9_sulksTried_64 : decode cX9_sulksTried 64 = .ok (.istore 5, 2) := by decide +kernel
theorem dX9_sulksTried_66 : decode cX9_sulksTried 66 = .ok (.iload_n 3, 1) := by decide +kernel
theorem dX9_sulksTried_67 : decode cX9_sulksTried 67 = .ok (.iload 4, 2) := by decide +kernel
theorem dX9_sulksTried_69 : decode cX9_sulksTried 69 = .ok (.if_icmp .ne 7, 3) := by decide +kernel
theorem dX9_sulksTried_72 : decode cX9_sulksTried 72 = .ok (.iconst 1, 1) := by decide +kernel
theorem dX9_sulksTried_73 : decode cX9_sulksTried 73 = .ok (.goto 4, 3) := by decide +kernel
theorem dX9_sulksTried_76 : decode cX9_sulksTried 76 = .ok (.iconst 0, 1) := by decide +kernel
theorem dX9_sulksTried_77 : decode cX9_sulksTried 77 = .ok (.istore 6, 2) := by decide +kernel
theorem dX9_sulksTried_79 : decode cX9_sulksTried 79 = .ok (.iload_n 1, 1) := by decide +kernel
theorem dX9_sulksTried_80 : decode cX9_sulksTried 80 = .ok (.iload 5, 2) := by decide +kernel
theorem dX9_sulksTried_82 : decode cX9_sulksTried 82 = .ok (.iload 6, 2) := by decide +kernel
theorem dX9_sulksTried_84 : decode cX9_sulksTried 84 = .ok (.if_icmp .eq 34, 3) := by decide +kernel
theorem dX9_sulksTried_87 : decode cX9_sulksTried 87 = .ok (.iload 5, 2) := by decide +kernel
theorem dX9_sulksTried_89 : decode cX9_sulksTried 89 = .ok (.aload_n 0, 1) := by decide +kernel
theorem dX9_sulksTried_90 : decode cX9_sulksTried 90 = .ok (.getfield 7, 3) := by decide +kernel
theorem dX9_sulksTried_93 : decode cX9_sulksTried 93 = .ok (.bipush 27, 2) := by decide +kernel
theorem dX9_sulksTried_95 : decode cX9_sulksTried 95 = .ok (.iload 4, 2) := by decide +kernel
theorem dX9_sulksTried_97 : decode cX9_sulksTried 97 = .ok (.iadd, 1) := by decide +kernel
theorem dX9_sulksTried_98 : decode cX9_sulksTried 98 = .ok (.iaload, 1) := by decide +kernel
theorem dX9_sulksTried_99 : decode cX9_sulksTried 99 = .ok (.iconst 1, 1) := by decide +kernel
theorem dX9_sulksTried_100 : decode cX9_sulksTried 100 = .ok (.if_icmp .ne 7, 3) := by decide +kernel
theorem dX9_sulksTried_103 : decode cX9_sulksTried 103 = .ok (.iconst 1, 1) := by decide +kernel
theorem dX9_sulksTried_104 : decode cX9_sulksTried 104 = .ok (.goto 4, 3) := by decide +kernel
theorem dX9_sulksTried_107 : decode cX9_sulksTried 107 = .ok (.iconst 0, 1) := by decide +kernel
theorem dX9_sulksTried_108 : decode cX9_sulksTried 108 = .ok (.if_icmp .ne 10, 3) := by decide +kernel
theorem dX9_sulksTried_111 : decode cX9_sulksTried 111 = .ok (.iconst 1, 1) := by decide +kernel
theorem dX9_sulksTried_112 : decode cX9_sulksTried 112 = .ok (.iload 4, 2) := by decide +kernel
theorem dX9_sulksTried_114 : decode cX9_sulksTried 114 = .ok (.ishl, 1) := by decide +kernel
theorem dX9_sulksTried_115 : decode cX9_sulksTried 115 = .ok (.goto 4, 3) := by decide +kernel
theorem dX9_sulksTried_118 : decode cX9_sulksTried 118 = .ok (.iconst 0, 1) := by decide +kernel
theorem dX9_sulksTried_119 : decode cX9_sulksTried 119 = .ok (.ior, 1) := by decide +kernel
theorem dX9_sulksTried_120 : decode cX9_sulksTried 120 = .ok (.istore_n 1, 1) := by decide +kernel
theorem dX9_sulksTried_121 : decode cX9_sulksTried 121 = .ok (.iinc 4 1, 3) := by decide +kernel
theorem dX9_sulksTried_124 : decode cX9_sulksTried 124 = .ok (.goto (-102), 3) := by decide +kernel
theorem dX9_sulksTried_127 : decode cX9_sulksTried 127 = .ok (.aload_n 0, 1) := by decide +kernel
theorem dX9_sulksTried_128 : decode cX9_sulksTried 128 = .ok (.getfield 7, 3) := by decide +kernel
theorem dX9_sulksTried_131 : decode cX9_sulksTried 131 = .ok (.sipush 1061, 3) := by decide +kernel
theorem dX9_sulksTried_134 : decode cX9_sulksTried 134 = .ok (.iload_n 2, 1) := by decide +kernel
theorem dX9_sulksTried_135 : decode cX9_sulksTried 135 = .ok (.iastore, 1) := by decide +kernel
theorem dX9_sulksTried_136 : decode cX9_sulksTried 136 = .ok (.iload_n 1, 1) := by decide +kernel
theorem dX9_sulksTried_137 : decode cX9_sulksTried 137 = .ok (.ireturn, 1) := by decide +kernel
theorem dX9_sulks_0 : decode cX9_sulks 0 = .ok (.aload_n 0, 1) := by decide +kernel
theorem dX9_sulks_1 : decode cX9_sulks 1 = .ok (.getfield 150, 3) := by decide +kernel
theorem dX9_sulks_4 : decode cX9_sulks 4 = .ok (.ifCond .ne 6, 3) := by decide +kernel
theorem dX9_sulks_7 : decode cX9_sulks 7 = .ok (.ldc 157, 2) := by decide +kernel
theorem dX9_sulks_9 : decode cX9_sulks 9 = .ok (.ireturn, 1) := by decide +kernel
theorem dX9_sulks_10 : decode cX9_sulks 10 = .ok (.aload_n 0, 1) := by decide +kernel
theorem dX9_sulks_11 : decode cX9_sulks 11 = .ok (.invokevirtual 208, 3) := by decide +kernel
theorem dX9_sulks_14 : decode cX9_sulks 14 = .ok (.aload_n 0, 1) := by decide +kernel
theorem dX9_sulks_15 : decode cX9_sulks 15 = .ok (.invokevirtual 229, 3) := by decide +kernel
theorem dX9_sulks_18 : decode cX9_sulks 18 = .ok (.ireturn, 1) := by decide +kernel
theorem dX9_peace_0 : decode cX9_peace 0 = .ok (.aload_n 0, 1) := by decide +kernel
theorem dX9_peace_1 : decode cX9_peace 1 = .ok (.getfield 150, 3) := by decide +kernel
theorem dX9_peace_4 : decode cX9_peace 4 = .ok (.ifCond .ne 6, 3) := by decide +kernel
theorem dX9_peace_7 : decode cX9_peace 7 = .ok (.ldc 157, 2) := by decide +kernel
theorem dX9_peace_9 : decode cX9_peace 9 = .ok (.ireturn, 1) := by decide +kernel
theorem dX9_peace_10 : decode cX9_peace 10 = .ok (.iload_n 1, 1) := by decide +kernel
theorem dX9_peace_11 : decode cX9_peace 11 = .ok (.i2l, 1) := by decide +kernel
theorem dX9_peace_12 : decode cX9_peace 12 = .ok (.lconst 0, 1) := by decide +kernel
theorem dX9_peace_13 : decode cX9_peace 13 = .ok (.lconst 1, 1) := by decide +kernel
theorem dX9_peace_14 : decode cX9_peace 14 = .ok (.invokestatic 60, 3) := by decide +kernel
theorem dX9_peace_17 : decode cX9_peace 17 = .ok (.ifCond .ne 6, 3) := by decide +kernel
theorem dX9_peace_20 : decode cX9_peace 20 = .ok (.ldc 70, 2) := by decide +kernel
theorem dX9_peace_22 : decode cX9_peace 22 = .ok (.ireturn, 1) := by decide +kernel
theorem dX9_peace_23 : decode cX9_peace 23 = .ok (.aload_n 0, 1) := by decide +kernel
theorem dX9_peace_24 : decode cX9_peace 24 = .ok (.invokevirtual 208, 3) := by decide +kernel
theorem dX9_peace_27 : decode cX9_peace 27 = .ok (.iconst 0, 1) := by decide +kernel
theorem dX9_peace_28 : decode cX9_peace 28 = .ok (.istore_n 2, 1) := by decide +kernel
theorem dX9_peace_29 : decode cX9_peace 29 = .ok (.iload_n 2, 1) := by decide +kernel
theorem dX9_peace_30 : decode cX9_peace 30 = .ok (.bipush 41, 2) := by decide +kernel
theorem dX9_peace_32 : decode cX9_peace 32 = .ok (.if_icmp .ge 50, 3) := by decide +kernel
theorem dX9_peace_35 : decode cX9_peace 35 = .ok (.aload_n 0, 1) := by decide +kernel
theorem dX9_peace_36 : decode cX9_peace 36 = .ok (.invokevirtual 229, 3) := by decide +kernel
theorem dX9_peace_39 : decode cX9_peace 39 = .ok (.istore_n 3, 1) := by decide +kernel
theorem dX9_peace_40 : decode cX9_peace 40 = .ok (.iload_n 3, 1) := by decide +kernel
theorem dX9_peace_41 : decode cX9_peace 41 = .ok (.ifCond .ne 20, 3) := by decide +kernel
theorem dX9_peace_44 : decode cX9_peace 44 = .ok (.iload_n 1, 1) := by decide +kernel
theorem dX9_peace_45 : decode cX9_peace 45 = .ok (.ifCond .ne 7, 3) := by decide +kernel
theorem dX9_peace_48 : decode cX9_peace 48 = .ok (.iload_n 2, 1) := by decide +kernel
theorem dX9_peace_49 : decode cX9_peace 49 = .ok (.goto 11, 3) := by decide +kernel
theorem dX9_peace_52 : decode cX9_peace 52 = .ok (.aload_n 0, 1) := by decide +kernel
theorem dX9_peace_53 : decode cX9_peace 53 = .ok (.getfield 7, 3) := by decide +kernel
theorem dX9_peace_56 : decode cX9_peace 56 = .ok (.sipush 1061, 3) := by decide +kernel
theorem dX9_peace_59 : decode cX9_peace 59 = .ok (.iaload, 1) := by decide +kernel
theorem dX9_peace_60 : decode cX9_peace 60 = .ok (.ireturn, 1) := by decide +kernel
theorem dX9_peace_61 : decode cX9_peace 61 = .ok (.aload_n 0, 1) := by decide +kernel
theorem dX9_peace_62 : decode cX9_peace 62 = .ok (.getfield 7, 3) := by decide +kernel
theorem dX9_peace_65 : decode cX9_peace 65 = .ok (.sipush 1061, 3) := by decide +kernel
theorem dX9_peace_68 : decode cX9_peace 68 = .ok (.dup2, 1) := by decide +kernel
theorem dX9_peace_69 : decode cX9_peace 69 = .ok (.iaload, 1) := by decide +kernel
theorem dX9_peace_70 : decode cX9_peace 70 = .ok (.iload_n 3, 1) := by decide +kernel
theorem dX9_peace_71 : decode cX9_peace 71 = .ok (.iload_n 3, 1) := by decide +kernel
theorem dX9_peace_72 : decode cX9_peace 72 = .ok (.ineg, 1) := by decide +kernel
theorem dX9_peace_73 : decode cX9_peace 73 = .ok (.iand, 1) := by decide +kernel
theorem dX9_peace_74 : decode cX9_peace 74 = .ok (.ixor, 1) := by decide +kernel
theorem dX9_peace_75 : decode cX9_peace 75 = .ok (.iastore, 1) := by decide +kernel
theorem dX9_peace_76 : decode cX9_peace 76 = .ok (.iinc 2 1, 3) := by decide +kernel
theorem dX9_peace_79 : decode cX9_peace 79 = .ok (.goto (-50), 3) := by decide +kernel
theorem dX9_peace_82 : decode cX9_peace 82 = .ok (.ldc 128, 2) := by decide +kernel
theorem dX9_peace_84 : decode cX9_peace 84 = .ok (.ireturn, 1) := by decide +kernel
theorem dX9_noItems_0 : decode cX9_noItems 0 = .ok (.aload_n 0, 1) := by decide +kernel
theorem dX9_noItems_1 : decode cX9_noItems 1 = .ok (.getfield 20, 3) := by decide +kernel
theorem dX9_noItems_4 : decode cX9_noItems 4 = .ok (.iload_n 1, 1) := by decide +kernel
theorem dX9_noItems_5 : decode cX9_noItems 5 = .ok (.iaload, 1) := by decide +kernel
theorem dX9_noItems_6 : decode cX9_noItems 6 = .ok (.ifCond .ge 11, 3) := by decide +kernel
theorem dX9_noItems_9 : decode cX9_noItems 9 = .ok (.aload_n 0, 1) := by decide +kernel
theorem dX9_noItems_10 : decode cX9_noItems 10 = .ok (.iconst 1, 1) := by decide +kernel
theorem dX9_noItems_11 : decode cX9_noItems 11 = .ok (.invokevirtual 71, 3) := by decide +kernel
theorem dX9_noItems_14 : decode cX9_noItems 14 = .ok (.goto 22, 3) := by decide +kernel
theorem dX9_noItems_17 : decode cX9_noItems 17 = .ok (.aload_n 0, 1) := by decide +kernel
theorem dX9_noItems_18 : decode cX9_noItems 18 = .ok (.iload_n 1, 1) := by decide +kernel
theorem dX9_noItems_19 : decode cX9_noItems 19 = .ok (.iload_n 2, 1) := by decide +kernel
theorem dX9_noItems_20 : decode cX9_noItems 20 = .ok (.iload_n 3, 1) := by decide +kernel
theorem dX9_noItems_21 : decode cX9_noItems 21 = .ok (.invokevirtual 82, 3) := by decide +kernel
theorem dX9_noItems_24 : decode cX9_noItems 24 = .ok (.ifCond .eq 7, 3) := by decide +kernel
theorem dX9_noItems_27 : decode cX9_noItems 27 = .ok (.iconst 0, 1) := by decide +kernel
theorem dX9_noItems_28 : decode cX9_noItems 28 = .ok (.goto 8, 3) := by decide +kernel
theorem dX9_noItems_31 : decode cX9_noItems 31 = .ok (.aload_n 0, 1) := by decide +kernel
theorem dX9_noItems_32 : decode cX9_noItems 32 = .ok (.iconst 2, 1) := by decide +kernel
theorem dX9_noItems_33 : decode cX9_noItems 33 = .ok (.invokevirtual 71, 3) := by decide +kernel
theorem dX9_noItems_36 : decode cX9_noItems 36 = .ok (.ireturn, 1) := by decide +kernel
theorem dX9_isSo_0 : decode cX9_isSo 0 = .ok (.iconst 0, 1) := by decide +kernel
theorem dX9_isSo_1 : decode cX9_isSo 1 = .ok (.istore 4, 2) := by decide +kernel
theorem dX9_isSo_3 : decode cX9_isSo 3 = .ok (.iload 4, 2) := by decide +kernel
theorem dX9_isSo_5 : decode cX9_isSo 5 = .ok (.iload_n 3, 1) := by decide +kernel
theorem dX9_isSo_6 : decode cX9_isSo 6 = .ok (.if_icmp .ge 49, 3) := by decide +kernel
theorem dX9_isSo_9 : decode cX9_isSo 9 = .ok (.aload_n 0, 1) := by decide +kernel
theorem dX9_isSo_10 : decode cX9_isSo 10 = .ok (.iload 4, 2) := by decide +kernel
theorem dX9_isSo_12 : decode cX9_isSo 12 = .ok (.invokevirtual 211, 3) := by decide +kernel
theorem dX9_isSo_15 : decode cX9_isSo 15 = .ok (.istore 5, 2) := by decide +kernel
theorem dX9_isSo_17 : decode cX9_isSo 17 = .ok (.iload 5, 2) := by decide +kernel
theorem dX9_isSo_19 : decode cX9_isSo 19 = .ok (.ldc 128, 2) := by decide +kernel
theorem dX9_isSo_21 : decode cX9_isSo 21 = .ok (.if_icmp .ne 7, 3) := by decide +kernel
theorem dX9_isSo_24 : decode cX9_isSo 24 = .ok (.iconst (-1), 1) := by decide +kernel
theorem dX9_isSo_25 : decode cX9_isSo 25 = .ok (.goto 5, 3) := by decide +kernel
theorem dX9_isSo_28 : decode cX9_isSo 28 = .ok (.iload 5, 2) := by decide +kernel
theorem dX9_isSo_30 : decode cX9_isSo 30 = .ok (.aload_n 0, 1) := by decide +kernel
theorem dX9_isSo_31 : decode cX9_isSo 31 = .ok (.getfield 23, 3) := by decide +kernel
theorem dX9_isSo_34 : decode cX9_isSo 34 = .ok (.bipush 40, 2) := by decide +kernel
theorem dX9_isSo_36 : decode cX9_isSo 36 = .ok (.iload_n 1, 1) := by decide +kernel
theorem dX9_isSo_37 : decode cX9_isSo 37 = .ok (.imul, 1) := by decide +kernel
theorem dX9_isSo_38 : decode cX9_isSo 38 = .ok (.iload_n 2, 1) := by decide +kernel
theorem dX9_isSo_39 : decode cX9_isSo 39 = .ok (.iadd, 1) := by decide +kernel
theorem dX9_isSo_40 : decode cX9_isSo 40 = .ok (.iload 4, 2) := by decide +kernel
theorem dX9_isSo_42 : decode cX9_isSo 42 = .ok (.iadd, 1) := by decide +kernel
theorem dX9_isSo_43 : decode cX9_isSo 43 = .ok (.iaload, 1) := by decide +kernel
theorem dX9_isSo_44 : decode cX9_isSo 44 = .ok (.if_icmp .eq 5, 3) := by decide +kernel
theorem dX9_isSo_47 : decode cX9_isSo 47 = .ok (.iconst 0, 1) := by decide +kernel
theorem dX9_isSo_48 : decode cX9_isSo 48 = .ok (.ireturn, 1) := by decide +kernel
theorem dX9_isSo_49 : decode cX9_isSo 49 = .ok (.iinc 4 1, 3) := by decide +kernel
theorem dX9_isSo_52 : decode cX9_isSo 52 = .ok (.goto (-49), 3) := by decide +kernel
theorem dX9_isSo_55 : decode cX9_isSo 55 = .ok (.iconst 1, 1) := by decide +kernel
theorem dX9_isSo_56 : decode cX9_isSo 56 = .ok (.ireturn, 1) := by decide +kernel
theorem dX9_rolls_0 : decode cX9_rolls 0 = .ok (.aload_n 0, 1) := by decide +kernel
theorem dX9_rolls_1 : decode cX9_rolls 1 = .ok (.getfield 150, 3) := by decide +kernel
theorem dX9_rolls_4 : decode cX9_rolls 4 = .ok (.ifCond .ne 6, 3) := by decide +kernel
theorem dX9_rolls_7 : decode cX9_rolls 7 = .ok (.ldc 157, 2) := by decide +kernel
theorem dX9_rolls_9 : decode cX9_rolls 9 = .ok (.ireturn, 1) := by decide +kernel
theorem dX9_rolls_10 : decode cX9_rolls 10 = .ok (.iload_n 1, 1) := by decide +kernel
theorem dX9_rolls_11 : decode cX9_rolls 11 = .ok (.invokestatic 64, 3) := by decide +kernel
theorem dX9_rolls_14 : decode cX9_rolls 14 = .ok (.ifCond .eq 28, 3) := by decide +kernel
theorem dX9_rolls_17 : decode cX9_rolls 17 = .ok (.iload_n 3, 1) := by decide +kernel
theorem dX9_rolls_18 : decode cX9_rolls 18 = .ok (.i2l, 1) := by decide +kernel
theorem dX9_rolls_19 : decode cX9_rolls 19 = .ok (.lconst 1, 1) := by decide +kernel
theorem dX9_rolls_20 : decode cX9_rolls 20 = .ok (.ldc2_w 233, 3) := by decide +kernel
theorem dX9_rolls_23 : decode cX9_rolls 23 = .ok (.invokestatic 60, 3) := by decide +kernel
theorem dX9_rolls_26 : decode cX9_rolls 26 = .ok (.ifCond .eq 16, 3) := by decide +kernel
theorem dX9_rolls_29 : decode cX9_rolls 29 = .ok (.iload 4, 2) := by decide +kernel
theorem dX9_rolls_31 : decode cX9_rolls 31 = .ok (.i2l, 1) := by decide +kernel
theorem dX9_rolls_32 : decode cX9_rolls 32 = .ok (.lconst 0, 1) := by decide +kernel
theorem dX9_rolls_33 : decode cX9_rolls 33 = .ok (.ldc2_w 235, 3) := by decide +kernel
theorem dX9_rolls_36 : decode cX9_rolls 36 = .ok (.invokestatic 60, 3) := by decide +kernel
theorem dX9_rolls_39 : decode cX9_rolls 39 = .ok (.ifCond .ne 6, 3) := by decide +kernel
theorem dX9_rolls_42 : decode cX9_rolls 42 = .ok (.ldc 70, 2) := by decide +kernel
theorem dX9_rolls_44 : decode cX9_rolls 44 = .ok (.ireturn, 1) := by decide +kernel
theorem dX9_rolls_45 : decode cX9_rolls 45 = .ok (.aload_n 0, 1) := by decide +kernel
theorem dX9_rolls_46 : decode cX9_rolls 46 = .ok (.iload_n 1, 1) := by decide +kernel
theorem dX9_rolls_47 : decode cX9_rolls 47 = .ok (.iload_n 2, 1) := by decide +kernel
theorem dX9_rolls_48 : decode cX9_rolls 48 = .ok (.iload_n 3, 1) := by decide +kernel
theorem dX9_rolls_49 : decode cX9_rolls 49 = .ok (.invokevirtual 237, 3) := by decide +kernel
theorem dX9_rolls_52 : decode cX9_rolls 52 = .ok (.istore 5, 2) := by decide +kernel
theorem dX9_rolls_54 : decode cX9_rolls 54 = .ok (.iload 5, 2) := by decide +kernel
theorem dX9_rolls_56 : decode cX9_rolls 56 = .ok (.ifCond .eq 6, 3) := by decide +kernel
theorem dX9_rolls_59 : decode cX9_rolls 59 = .ok (.iload 5, 2) := by decide +kernel
theorem dX9_rolls_61 : decode cX9_rolls 61 = .ok (.ireturn, 1) := by decide +kernel
theorem dX9_rolls_62 : decode cX9_rolls 62 = .ok (.iconst 0, 1) := by decide +kernel
theorem dX9_rolls_63 : decode cX9_rolls 63 = .ok (.istore 6, 2) := by decide +kernel
theorem dX9_rolls_65 : decode cX9_rolls 65 = .ok (.iload 4, 2) := by decide +kernel
theorem dX9_rolls_67 : decode cX9_rolls 67 = .ok (.iconst 2, 1) := by decide +kernel
theorem dX9_rolls_68 : decode cX9_rolls 68 = .ok (.if_icmp .ne 7, 3) := by decide +kernel
theorem dX9_rolls_71 : decode cX9_rolls 71 = .ok (.iconst 1, 1) := by decide +kernel
theorem dX9_rolls_72 : decode cX9_rolls 72 = .ok (.goto 4, 3) := by decide +kernel
theorem dX9_rolls_75 : decode cX9_rolls 75 = .ok (.iconst 0, 1) := by decide +kernel
theorem dX9_rolls_76 : decode cX9_rolls 76 = .ok (.istore 7, 2) := by decide +kernel
theorem dX9_rolls_78 : decode cX9_rolls 78 = .ok (.iload 7, 2) := by decide +kernel
theorem dX9_rolls_80 : decode cX9_rolls 80 = .ok (.aload_n 0, 1) := by decide +kernel
theorem dX9_rolls_81 : decode cX9_rolls 81 = .ok (.getfield 47, 3) := by decide +kernel
theorem dX9_rolls_84 : decode cX9_rolls 84 = .ok (.iload 4, 2) := by decide +kernel
theorem dX9_rolls_86 : decode cX9_rolls 86 = .ok (.iaload, 1) := by decide +kernel
theorem dX9_rolls_87 : decode cX9_rolls 87 = .ok (.if_icmp .gt 54, 3) := by decide +kernel
theorem dX9_rolls_90 : decode cX9_rolls 90 = .ok (.aload_n 0, 1) := by decide +kernel
theorem dX9_rolls_91 : decode cX9_rolls 91 = .ok (.invokevirtual 208, 3) := by decide +kernel
theorem dX9_rolls_94 : decode cX9_rolls 94 = .ok (.aload_n 0, 1) := by decide +kernel
theorem dX9_rolls_95 : decode cX9_rolls 95 = .ok (.getfield 7, 3) := by decide +kernel
theorem dX9_rolls_98 : decode cX9_rolls 98 = .ok (.sipush 1053, 3) := by decide +kernel
theorem dX9_rolls_101 : decode cX9_rolls 101 = .ok (.aload_n 0, 1) := by decide +kernel
theorem dX9_rolls_102 : decode cX9_rolls 102 = .ok (.getfield 44, 3) := by decide +kernel
theorem dX9_rolls_105 : decode cX9_rolls 105 = .ok (.iload 4, 2) := by decide +kernel
theorem dX9_rolls_107 : decode cX9_rolls 107 = .ok (.iaload, 1) := by decide +kernel
theorem dX9_rolls_108 : decode cX9_rolls 108 = .ok (.iadd, 1) := by decide +kernel
theorem dX9_rolls_109 : decode cX9_rolls 109 = .ok (.iload 7, 2) := by decide +kernel
theorem dX9_rolls_111 : decode cX9_rolls 111 = .ok (.iastore, 1) := by decide +kernel
theorem dX9_rolls_112 : decode cX9_rolls 112 = .ok (.iload 6, 2) := by decide +kernel
theorem dX9_rolls_114 : decode cX9_rolls 114 = .ok (.aload_n 0, 1) := by decide +kernel
theorem dX9_rolls_115 : decode cX9_rolls 115 = .ok (.iload_n 1, 1) := by decide +kernel
theorem dX9_rolls_116 : decode cX9_rolls 116 = .ok (.iload_n 2, 1) := by decide +kernel
theorem dX9_rolls_117 : decode cX9_rolls 117 = .ok (.iload_n 3, 1) := by decide +kernel
theorem dX9_rolls_118 : decode cX9_rolls 118 = .ok (.invokevirtual 240, 3) := by decide +kernel
theorem dX9_rolls_121 : decode cX9_rolls 121 = .ok (.ifCond .eq 10, 3) := by decide +kernel
theorem dX9_rolls_124 : decode cX9_rolls 124 = .ok (.iconst 1, 1) := by decide +kernel
theorem dX9_rolls_125 : decode cX9_rolls 125 = .ok (.iload 7, 2) := by decide +kernel
theorem dX9_rolls_127 : decode cX9_rolls 127 = .ok (.ishl, 1) := by decide +kernel
theorem dX9_rolls_128 : decode cX9_rolls 128 = .ok (.goto 4, 3) := by decide +kernel
theorem dX9_rolls_131 : decode cX9_rolls 131 = .ok (.iconst 0, 1) := by decide +kernel
theorem dX9_rolls_132 : decode cX9_rolls 132 = .ok (.ior, 1) := by decide +kernel
theorem dX9_rolls_133 : decode cX9_rolls 133 = .ok (.istore 6, 2) := by decide +kernel
theorem dX9_rolls_135 : decode cX9_rolls 135 = .ok (.iinc 7 1, 3) := by decide +kernel
theorem dX9_rolls_138 : decode cX9_rolls 138 = .ok (.goto (-60), 3) := by decide +kernel
theorem dX9_rolls_141 : decode cX9_rolls 141 = .ok (.aload_n 0, 1) := by decide +kernel
theorem dX9_rolls_142 : decode cX9_rolls 142 = .ok (.iload 6, 2) := by decide +kernel
theorem dX9_rolls_144 : decode cX9_rolls 144 = .ok (.invokevirtual 75, 3) := by decide +kernel
theorem dX9_rolls_147 : decode cX9_rolls 147 = .ok (.ireturn, 1) := by decide +kernel
theorem dX9_sorts_0 : decode cX9_sorts 0 = .ok (.aload_n 0, 1) := by decide +kernel
theorem dX9_sorts_1 : decode cX9_sorts 1 = .ok (.iload_n 1, 1) := by decide +kernel
theorem dX9_sorts_2 : decode cX9_sorts 2 = .ok (.invokevirtual 193, 3) := by decide +kernel
theorem dX9_sorts_5 : decode cX9_sorts 5 = .ok (.ifCond .eq 23, 3) := by decide +kernel
theorem dX9_sorts_8 : decode cX9_sorts 8 = .ok (.iload_n 2, 1) := by decide +kernel
theorem dX9_sorts_9 : decode cX9_sorts 9 = .ok (.invokestatic 64, 3) := by decide +kernel
theorem dX9_sorts_12 : decode cX9_sorts 12 = .ok (.ifCond .eq 16, 3) := by decide +kernel
theorem dX9_sorts_15 : decode cX9_sorts 15 = .ok (.iload 4, 2) := by decide +kernel
theorem dX9_sorts_17 : decode cX9_sorts 17 = .ok (.i2l, 1) := by decide +kernel
theorem dX9_sorts_18 : decode cX9_sorts 18 = .ok (.lconst 1, 1) := by decide +kernel
theorem dX9_sorts_19 : decode cX9_sorts 19 = .ok (.ldc2_w 233, 3) := by decide +kernel
theorem dX9_sorts_22 : decode cX9_sorts 22 = .ok (.invokestatic 60, 3) := by decide +kernel
theorem dX9_sorts_25 : decode cX9_sorts 25 = .ok (.ifCond .ne 6, 3) := by decide +kernel
theorem dX9_sorts_28 : decode cX9_sorts 28 = .ok (.ldc 70, 2) := by decide +kernel
theorem dX9_sorts_30 : decode cX9_sorts 30 = .ok (.ireturn, 1) := by decide +kernel
theorem dX9_sorts_31 : decode cX9_sorts 31 = .ok (.aload_n 0, 1) := by decide +kernel
theorem dX9_sorts_32 : decode cX9_sorts 32 = .ok (.iload_n 2, 1) := by decide +kernel
theorem dX9_sorts_33 : decode cX9_sorts 33 = .ok (.iload_n 3, 1) := by decide +kernel
theorem dX9_sorts_34 : decode cX9_sorts 34 = .ok (.iload 4, 2) := by decide +kernel
theorem dX9_sorts_36 : decode cX9_sorts 36 = .ok (.invokevirtual 237, 3) := by decide +kernel
theorem dX9_sorts_39 : decode cX9_sorts 39 = .ok (.istore 5, 2) := by decide +kernel
theorem dX9_sorts_41 : decode cX9_sorts 41 = .ok (.iload 5, 2) := by decide +kernel
theorem dX9_sorts_43 : decode cX9_sorts 43 = .ok (.ifCond .eq 6, 3) := by decide +kernel
theorem dX9_sorts_46 : decode cX9_sorts 46 = .ok (.iload 5, 2) := by decide +kernel
theorem dX9_sorts_48 : decode cX9_sorts 48 = .ok (.ireturn, 1) := by decide +kernel
theorem dX9_sorts_49 : decode cX9_sorts 49 = .ok (.iconst 0, 1) := by decide +kernel
theorem dX9_sorts_50 : decode cX9_sorts 50 = .ok (.istore 6, 2) := by decide +kernel
theorem dX9_sorts_52 : decode cX9_sorts 52 = .ok (.iconst 1, 1) := by decide +kernel
theorem dX9_sorts_53 : decode cX9_sorts 53 = .ok (.istore 7, 2) := by decide +kernel
theorem dX9_sorts_55 : decode cX9_sorts 55 = .ok (.iload 7, 2) := by decide +kernel
theorem dX9_sorts_57 : decode cX9_sorts 57 = .ok (.bipush 6, 2) := by decide +kernel
theorem dX9_sorts_59 : decode cX9_sorts 59 = .ok (.if_icmp .ge 49, 3) := by decide +kernel
theorem dX9_sorts_62 : decode cX9_sorts 62 = .ok (.aload_n 0, 1) := by decide +kernel
theorem dX9_sorts_63 : decode cX9_sorts 63 = .ok (.invokevirtual 208, 3) := by decide +kernel
theorem dX9_sorts_66 : decode cX9_sorts 66 = .ok (.aload_n 0, 1) := by decide +kernel
theorem dX9_sorts_67 : decode cX9_sorts 67 = .ok (.getfield 7, 3) := by decide +kernel
theorem dX9_sorts_70 : decode cX9_sorts 70 = .ok (.sipush 1062, 3) := by decide +kernel
theorem dX9_sorts_73 : decode cX9_sorts 73 = .ok (.iload_n 1, 1) := by decide +kernel
theorem dX9_sorts_74 : decode cX9_sorts 74 = .ok (.iadd, 1) := by decide +kernel
theorem dX9_sorts_75 : decode cX9_sorts 75 = .ok (.iload 7, 2) := by decide +kernel
theorem dX9_sorts_77 : decode cX9_sorts 77 = .ok (.iastore, 1) := by decide +kernel
theorem dX9_sorts_78 : decode cX9_sorts 78 = .ok (.iload 6, 2) := by decide +kernel
theorem dX9_sorts_80 : decode cX9_sorts 80 = .ok (.aload_n 0, 1) := by decide +kernel
theorem dX9_sorts_81 : decode cX9_sorts 81 = .ok (.iload_n 2, 1) := by decide +kernel
theorem dX9_sorts_82 : decode cX9_sorts 82 = .ok (.iload_n 3, 1) := by decide +kernel
theorem dX9_sorts_83 : decode cX9_sorts 83 = .ok (.iload 4, 2) := by decide +kernel
theorem dX9_sorts_85 : decode cX9_sorts 85 = .ok (.invokevirtual 240, 3) := by decide +kernel
theorem dX9_sorts_88 : decode cX9_sorts 88 = .ok (.ifCond .eq 10, 3) := by decide +kernel
theorem dX9_sorts_91 : decode cX9_sorts 91 = .ok (.iconst 1, 1) := by decide +kernel
theorem dX9_sorts_92 : decode cX9_sorts 92 = .ok (.iload 7, 2) := by decide +kernel
theorem dX9_sorts_94 : decode cX9_sorts 94 = .ok (.ishl, 1) := by decide +kernel
theorem dX9_sorts_95 : decode cX9_sorts 95 = .ok (.goto 4, 3) := by decide +kernel
theorem dX9_sorts_98 : decode cX9_sorts 98 = .ok (.iconst 0, 1) := by decide +kernel
theorem dX9_sorts_99 : decode cX9_sorts 99 = .ok (.ior, 1) := by decide +kernel
theorem dX9_sorts_100 : decode cX9_sorts 100 = .ok (.istore 6, 2) := by decide +kernel
theorem dX9_sorts_102 : decode cX9_sorts 102 = .ok (.iinc 7 1, 3) := by decide +kernel
theorem dX9_sorts_105 : decode cX9_sorts 105 = .ok (.goto (-50), 3) := by decide +kernel
theorem dX9_sorts_108 : decode cX9_sorts 108 = .ok (.aload_n 0, 1) := by decide +kernel
theorem dX9_sorts_109 : decode cX9_sorts 109 = .ok (.iload 6, 2) := by decide +kernel
theorem dX9_sorts_111 : decode cX9_sorts 111 = .ok (.invokevirtual 75, 3) := by decide +kernel
theorem dX9_sorts_114 : decode cX9_sorts 114 = .ok (.ireturn, 1) := by decide +kernel
theorem dX9_play_0 : decode cX9_play 0 = .ok (.aload_n 0, 1) := by decide +kernel
theorem dX9_play_1 : decode cX9_play 1 = .ok (.iload_n 1, 1) := by decide +kernel
theorem dX9_play_2 : decode cX9_play 2 = .ok (.invokevirtual 193, 3) := by decide +kernel
theorem dX9_play_5 : decode cX9_play 5 = .ok (.ifCond .eq 25, 3) := by decide +kernel
theorem dX9_play_8 : decode cX9_play 8 = .ok (.iload_n 2, 1) := by decide +kernel
theorem dX9_play_9 : decode cX9_play 9 = .ok (.i2l, 1) := by decide +kernel
theorem dX9_play_10 : decode cX9_play 10 = .ok (.lconst 0, 1) := by decide +kernel
theorem dX9_play_11 : decode cX9_play 11 = .ok (.ldc2_w 243, 3) := by decide +kernel
theorem dX9_play_14 : decode cX9_play 14 = .ok (.invokestatic 60, 3) := by decide +kernel
theorem dX9_play_17 : decode cX9_play 17 = .ok (.ifCond .eq 13, 3) := by decide +kernel
theorem dX9_play_20 : decode cX9_play 20 = .ok (.iload_n 3, 1) := by decide +kernel
theorem dX9_play_21 : decode cX9_play 21 = .ok (.i2l, 1) := by decide +kernel
theorem dX9_play_22 : decode cX9_play 22 = .ok (.lconst 0, 1) := by decide +kernel
theorem dX9_play_23 : decode cX9_play 23 = .ok (.lconst 1, 1) := by decide +kernel
theorem dX9_play_24 : decode cX9_play 24 = .ok (.invokestatic 60, 3) := by decide +kernel
theorem dX9_play_27 : decode cX9_play 27 = .ok (.ifCond .ne 6, 3) := by decide +kernel
theorem dX9_play_30 : decode cX9_play 30 = .ok (.ldc 70, 2) := by decide +kernel
theorem dX9_play_32 : decode cX9_play 32 = .ok (.ireturn, 1) := by decide +kernel
theorem dX9_play_33 : decode cX9_play 33 = .ok (.iconst 0, 1) := by decide +kernel
theorem dX9_play_34 : decode cX9_play 34 = .ok (.istore 4, 2) := by decide +kernel
theorem dX9_play_36 : decode cX9_play 36 = .ok (.iconst 0, 1) := by decide +kernel
theorem dX9_play_37 : decode cX9_play 37 = .ok (.istore 5, 2) := by decide +kernel
theorem dX9_play_39 : decode cX9_play 39 = .ok (.iconst 0, 1) := by decide +kernel
theorem dX9_play_40 : decode cX9_play 40 = .ok (.istore 6, 2) := by decide +kernel
theorem dX9_play_42 : decode cX9_play 42 = .ok (.iload 6, 2) := by decide +kernel
theorem dX9_play_44 : decode cX9_play 44 = .ok (.iconst 1, 1) := by decide +kernel
theorem dX9_play_45 : decode cX9_play 45 = .ok (.aload_n 0, 1) := by decide +kernel
theorem dX9_play_46 : decode cX9_play 46 = .ok (.getfield 7, 3) := by decide +kernel
theorem dX9_play_49 : decode cX9_play 49 = .ok (.iconst 1, 1) := by decide +kernel
theorem dX9_play_50 : decode cX9_play 50 = .ok (.iaload, 1) := by decide +kernel
theorem dX9_play_51 : decode cX9_play 51 = .ok (.ishl, 1) := by decide +kernel
theorem dX9_play_52 : decode cX9_play 52 = .ok (.if_icmp .ge 84, 3) := by decide +kernel
theorem dX9_play_55 : decode cX9_play 55 = .ok (.iconst 1, 1) := by decide +kernel
theorem dX9_play_56 : decode cX9_play 56 = .ok (.istore 7, 2) := by decide +kernel
theorem dX9_play_58 : decode cX9_play 58 = .ok (.iconst 0, 1) := by decide +kernel
theorem dX9_play_59 : decode cX9_play 59 = .ok (.istore 8, 2) := by decide +kernel
theorem dX9_play_61 : decode cX9_play 61 = .ok (.iload 8, 2) := by decide +kernel
theorem dX9_play_63 : decode cX9_play 63 = .ok (.aload_n 0, 1) := by decide +kernel
theorem dX9_play_64 : decode cX9_play 64 = .ok (.getfield 7, 3) := by decide +kernel
theorem dX9_play_67 : decode cX9_play 67 = .ok (.iconst 1, 1) := by decide +kernel
theorem dX9_play_68 : decode cX9_play 68 = .ok (.iaload, 1) := by decide +kernel
theorem dX9_play_69 : decode cX9_play 69 = .ok (.if_icmp .ge 32, 3) := by decide +kernel
theorem dX9_play_72 : decode cX9_play 72 = .ok (.iload 7, 2) := by decide +kernel
theorem dX9_play_74 : decode cX9_play 74 = .ok (.iload 6, 2) := by decide +kernel
theorem dX9_play_76 : decode cX9_play 76 = .ok (.iload 8, 2) := by decide +kernel
theorem dX9_play_78 : decode cX9_play 78 = .ok (.invokestatic 158, 3) := by decide +kernel
theorem dX9_play_81 : decode cX9_play 81 = .ok (.ifCond .eq 7, 3) := by decide +kernel
theorem dX9_play_84 : decode cX9_play 84 = .ok (.iload_n 2, 1) := by decide +kernel
theorem dX9_play_85 : decode cX9_play 85 = .ok (.goto 7, 3) := by decide +kernel
theorem dX9_play_88 : decode cX9_play 88 = .ok (.bipush 10, 2) := by decide +kernel
theorem dX9_play_90 : decode cX9_play 90 = .ok (.iload_n 2, 1) := by decide +kernel
theorem dX9_play_91 : decode cX9_play 91 = .ok (.isub, 1) := by decide +kernel
theorem dX9_play_92 : decode cX9_play 92 = .ok (.imul, 1) := by decide +kernel
theorem dX9_play_93 : decode cX9_play 93 = .ok (.istore 7, 2) := by decide +kernel
theorem dX9_play_95 : decode cX9_play 95 = .ok (.iinc 8 1, 3) := by decide +kernel
theorem dX9_play_98 : decode cX9_play 98 = .ok (.goto (-37), 3) := by decide +kernel
theorem dX9_play_101 : decode cX9_play 101 = .ok (.iload 4, 2) := by decide +kernel
theorem dX9_play_103 : decode cX9_play 103 = .ok (.aload_n 0, 1) := by decide +kernel
theorem dX9_play_104 : decode cX9_play 104 = .ok (.iload 6, 2) := by decide +kernel
theorem dX9_play_106 : decode cX9_play 106 = .ok (.iconst 0, 1) := by decide +kernel
theorem dX9_play_107 : decode cX9_play 107 = .ok (.invokevirtual 217, 3) := by decide +kernel
theorem dX9_play_110 : decode cX9_play 110 = .ok (.iload_n 1, 1) := by decide +kernel
theorem dX9_play_111 : decode cX9_play 111 = .ok (.if_icmp .ne 8, 3) := by decide +kernel
theorem dX9_play_114 : decode cX9_play 114 = .ok (.iload 7, 2) := by decide +kernel
theorem dX9_play_116 : decode cX9_play 116 = .ok (.goto 4, 3) := by decide +kernel
theorem dX9_play_119 : decode cX9_play 119 = .ok (.iconst 0, 1) := by decide +kernel
theorem dX9_play_120 : decode cX9_play 120 = .ok (.iadd, 1) := by decide +kernel
theorem dX9_play_121 : decode cX9_play 121 = .ok (.istore 4, 2) := by decide +kernel
theorem dX9_play_123 : decode cX9_play 123 = .ok (.iload 5, 2) := by decide +kernel
theorem dX9_play_125 : decode cX9_play 125 = .ok (.iload 7, 2) := by decide +kernel
theorem dX9_play_127 : decode cX9_play 127 = .ok (.iadd, 1) := by decide +kernel
theorem dX9_play_128 : decode cX9_play 128 = .ok (.istore 5, 2) := by decide +kernel
theorem dX9_play_130 : decode cX9_play 130 = .ok (.iinc 6 1, 3) := by decide +kernel
theorem dX9_play_133 : decode cX9_play 133 = .ok (.goto (-91), 3) := by decide +kernel
theorem dX9_play_136 : decode cX9_play 136 = .ok (.iload 4, 2) := by decide +kernel
theorem dX9_play_138 : decode cX9_play 138 = .ok (.istore 6, 2) := by decide +kernel
theorem dX9_play_140 : decode cX9_play 140 = .ok (.iload 5, 2) := by decide +kernel
theorem dX9_play_142 : decode cX9_play 142 = .ok (.istore 7, 2) := by decide +kernel
theorem dX9_play_144 : decode cX9_play 144 = .ok (.iload 7, 2) := by decide +kernel
theorem dX9_play_146 : decode cX9_play 146 = .ok (.ifCond .eq 21, 3) := by decide +kernel
theorem dX9_play_149 : decode cX9_play 149 = .ok (.iload 6, 2) := by decide +kernel
theorem dX9_play_151 : decode cX9_play 151 = .ok (.iload 7, 2) := by decide +kernel
theorem dX9_play_153 : decode cX9_play 153 = .ok (.irem, 1) := by decide +kernel
theorem dX9_play_154 : decode cX9_play 154 = .ok (.istore 8, 2) := by decide +kernel
theorem dX9_play_156 : decode cX9_play 156 = .ok (.iload 7, 2) := by decide +kernel
theorem dX9_play_158 : decode cX9_play 158 = .ok (.istore 6, 2) := by decide +kernel
theorem dX9_play_160 : decode cX9_play 160 = .ok (.iload 8, 2) := by decide +kernel
theorem dX9_play_162 : decode cX9_play 162 = .ok (.istore 7, 2) := by decide +kernel
theorem dX9_play_164 : decode cX9_play 164 = .ok (.goto (-20), 3) := by decide +kernel
theorem dX9_play_167 : decode cX9_play 167 = .ok (.iload_n 3, 1) := by decide +kernel
theorem dX9_play_168 : decode cX9_play 168 = .ok (.ifCond .ne 11, 3) := by decide +kernel
theorem dX9_play_171 : decode cX9_play 171 = .ok (.iload 4, 2) := by decide +kernel
theorem dX9_play_173 : decode cX9_play 173 = .ok (.iload 6, 2) := by decide +kernel
theorem dX9_play_175 : decode cX9_play 175 = .ok (.idiv, 1) := by decide +kernel
theorem dX9_play_176 : decode cX9_play 176 = .ok (.goto 8, 3) := by decide +kernel
theorem dX9_play_179 : decode cX9_play 179 = .ok (.iload 5, 2) := by decide +kernel
theorem dX9_play_181 : decode cX9_play 181 = .ok (.iload 6, 2) := by decide +kernel
theorem dX9_play_183 : decode cX9_play 183 = .ok (.idiv, 1) := by decide +kernel
theorem dX9_play_184 : decode cX9_play 184 = .ok (.ireturn, 1) := by decide +kernel
theorem dX9_drawn_0 : decode cX9_drawn 0 = .ok (.aload_n 0, 1) := by decide +kernel
theorem dX9_drawn_1 : decode cX9_drawn 1 = .ok (.getfield 150, 3) := by decide +kernel
theorem dX9_drawn_4 : decode cX9_drawn 4 = .ok (.ifCond .ne 6, 3) := by decide +kernel
theorem dX9_drawn_7 : decode cX9_drawn 7 = .ok (.ldc 157, 2) := by decide +kernel
theorem dX9_drawn_9 : decode cX9_drawn 9 = .ok (.ireturn, 1) := by decide +kernel
theorem dX9_drawn_10 : decode cX9_drawn 10 = .ok (.iload_n 1, 1) := by decide +kernel
theorem dX9_drawn_11 : decode cX9_drawn 11 = .ok (.i2l, 1) := by decide +kernel
theorem dX9_drawn_12 : decode cX9_drawn 12 = .ok (.lconst 0, 1) := by decide +kernel
theorem dX9_drawn_13 : decode cX9_drawn 13 = .ok (.ldc2_w 203, 3) := by decide +kernel
theorem dX9_drawn_16 : decode cX9_drawn 16 = .ok (.invokestatic 60, 3) := by decide +kernel
theorem dX9_drawn_19 : decode cX9_drawn 19 = .ok (.ifCond .eq 25, 3) := by decide +kernel
theorem dX9_drawn_22 : decode cX9_drawn 22 = .ok (.iload_n 2, 1) := by decide +kernel
theorem dX9_drawn_23 : decode cX9_drawn 23 = .ok (.i2l, 1) := by decide +kernel
theorem dX9_drawn_24 : decode cX9_drawn 24 = .ok (.lconst 1, 1) := by decide +kernel
theorem dX9_drawn_25 : decode cX9_drawn 25 = .ok (.ldc2_w 245, 3) := by decide +kernel
theorem dX9_drawn_28 : decode cX9_drawn 28 = .ok (.invokestatic 60, 3) := by decide +kernel
theorem dX9_drawn_31 : decode cX9_drawn 31 = .ok (.ifCond .eq 13, 3) := by decide +kernel
theorem dX9_drawn_34 : decode cX9_drawn 34 = .ok (.iload_n 3, 1) := by decide +kernel
theorem dX9_drawn_35 : decode cX9_drawn 35 = .ok (.i2l, 1) := by decide +kernel
theorem dX9_drawn_36 : decode cX9_drawn 36 = .ok (.lconst 0, 1) := by decide +kernel
theorem dX9_drawn_37 : decode cX9_drawn 37 = .ok (.lconst 1, 1) := by decide +kernel
theorem dX9_drawn_38 : decode cX9_drawn 38 = .ok (.invokestatic 60, 3) := by decide +kernel
theorem dX9_drawn_41 : decode cX9_drawn 41 = .ok (.ifCond .ne 6, 3) := by decide +kernel
theorem dX9_drawn_44 : decode cX9_drawn 44 = .ok (.ldc 70, 2) := by decide +kernel
theorem dX9_drawn_46 : decode cX9_drawn 46 = .ok (.ireturn, 1) := by decide +kernel
theorem dX9_drawn_47 : decode cX9_drawn 47 = .ok (.aload_n 0, 1) := by decide +kernel
theorem dX9_drawn_48 : decode cX9_drawn 48 = .ok (.invokevirtual 208, 3) := by decide +kernel
theorem dX9_drawn_51 : decode cX9_drawn 51 = .ok (.iconst 0, 1) := by decide +kernel
theorem dX9_drawn_52 : decode cX9_drawn 52 = .ok (.istore 4, 2) := by decide +kernel
theorem dX9_drawn_54 : decode cX9_drawn 54 = .ok (.iload 4, 2) := by decide +kernel
theorem dX9_drawn_56 : decode cX9_drawn 56 = .ok (.bipush 6, 2) := by decide +kernel
theorem dX9_drawn_58 : decode cX9_drawn 58 = .ok (.if_icmp .ge 17, 3) := by decide +kernel
theorem dX9_drawn_61 : decode cX9_drawn 61 = .ok (.aload_n 0, 1) := by decide +kernel
theorem dX9_drawn_62 : decode cX9_drawn 62 = .ok (.getfield 50, 3) := by decide +kernel
theorem dX9_drawn_65 : decode cX9_drawn 65 = .ok (.iload 4, 2) := by decide +kernel
theorem dX9_drawn_67 : decode cX9_drawn 67 = .ok (.iconst 0, 1) := by decide +kernel
theorem dX9_drawn_68 : decode cX9_drawn 68 = .ok (.iastore, 1) := by decide +kernel
theorem dX9_drawn_69 : decode cX9_drawn 69 = .ok (.iinc 4 1, 3) := by decide +kernel
theorem dX9_drawn_72 : decode cX9_drawn 72 = .ok (.goto (-18), 3) := by decide +kernel
theorem dX9_drawn_75 : decode cX9_drawn 75 = .ok (.iload_n 2, 1) := by decide +kernel
theorem dX9_drawn_76 : decode cX9_drawn 76 = .ok (.i2l, 1) := by decide +kernel
theorem dX9_drawn_77 : decode cX9_drawn 77 = .ok (.lstore 4, 2) := by decide +kernel
theorem dX9_drawn_79 : decode cX9_drawn 79 = .ok (.iconst 0, 1) := by decide +kernel
theorem dX9_drawn_80 : decode cX9_drawn 80 = .ok (.istore 6, 2) := by decide +kernel
theorem dX9_drawn_82 : decode cX9_drawn 82 = .ok (.iconst 0, 1) := by decide +kernel
theorem dX9_drawn_83 : decode cX9_drawn 83 = .ok (.istore 7, 2) := by decide +kernel
theorem dX9_drawn_85 : decode cX9_drawn 85 = .ok (.iload 7, 2) := by decide +kernel
theorem dX9_drawn_87 : decode cX9_drawn 87 = .ok (.iload_n 1, 1) := by decide +kernel
theorem dX9_drawn_88 : decode cX9_drawn 88 = .ok (.if_icmp .ge 102, 3) := by decide +kernel
theorem dX9_drawn_91 : decode cX9_drawn 91 = .ok (.lload 4, 2) := by decide +kernel
theorem dX9_drawn_93 : decode cX9_drawn 93 = .ok (.ldc2_w 247, 3) := by decide +kernel
theorem dX9_drawn_96 : decode cX9_drawn 96 = .ok (.lmul, 1) := by decide +kernel
theorem dX9_drawn_97 : decode cX9_drawn 97 = .ok (.ldc2_w 249, 3) := by decide +kernel
theorem dX9_drawn_100 : decode cX9_drawn 100 = .ok (.lrem, 1) := by decide +kernel
theorem dX9_drawn_101 : decode cX9_drawn 101 = .ok (.lstore 4, 2) := by decide +kernel
theorem dX9_drawn_103 : decode cX9_drawn 103 = .ok (.lload 4, 2) := by decide +kernel
theorem dX9_drawn_105 : decode cX9_drawn 105 = .ok (.ldc2_w 235, 3) := by decide +kernel
theorem dX9_drawn_108 : decode cX9_drawn 108 = .ok (.lrem, 1) := by decide +kernel
theorem dX9_drawn_109 : decode cX9_drawn 109 = .ok (.lconst 0, 1) := by decide +kernel
theorem dX9_drawn_110 : decode cX9_drawn 110 = .ok (.lcmp, 1) := by decide +kernel
theorem dX9_drawn_111 : decode cX9_drawn 111 = .ok (.ifCond .ne 36, 3) := by decide +kernel
theorem dX9_drawn_114 : decode cX9_drawn 114 = .ok (.aload_n 0, 1) := by decide +kernel
theorem dX9_drawn_115 : decode cX9_drawn 115 = .ok (.getfield 7, 3) := by decide +kernel
theorem dX9_drawn_118 : decode cX9_drawn 118 = .ok (.iconst 1, 1) := by decide +kernel
theorem dX9_drawn_119 : decode cX9_drawn 119 = .ok (.iaload, 1) := by decide +kernel
theorem dX9_drawn_120 : decode cX9_drawn 120 = .ok (.ifCond .le 27, 3) := by decide +kernel
theorem dX9_drawn_123 : decode cX9_drawn 123 = .ok (.aload_n 0, 1) := by decide +kernel
theorem dX9_drawn_124 : decode cX9_drawn 124 = .ok (.getfield 7, 3) := by decide +kernel
theorem dX9_drawn_127 : decode cX9_drawn 127 = .ok (.sipush 1061, 3) := by decide +kernel
theorem dX9_drawn_130 : decode cX9_drawn 130 = .ok (.dup2, 1) := by decide +kernel
theorem dX9_drawn_131 : decode cX9_drawn 131 = .ok (.iaload, 1) := by decide +kernel
theorem dX9_drawn_132 : decode cX9_drawn 132 = .ok (.iconst 1, 1) := by decide +kernel
theorem dX9_drawn_133 : decode cX9_drawn 133 = .ok (.lload 4, 2) := by decide +kernel
theorem dX9_drawn_135 : decode cX9_drawn 135 = .ok (.aload_n 0, 1) := by decide +kernel
theorem dX9_drawn_136 : decode cX9_drawn 136 = .ok (.getfield 7, 3) := by decide +kernel
theorem dX9_drawn_139 : decode cX9_drawn 139 = .ok (.iconst 1, 1) := by decide +kernel
theorem dX9_drawn_140 : decode cX9_drawn 140 = .ok (.iaload, 1) := by decide +kernel
theorem dX9_drawn_141 : decode cX9_drawn 141 = .ok (.i2l, 1) := by decide +kernel
theorem dX9_drawn_142 : decode cX9_drawn 142 = .ok (.lrem, 1) := by decide +kernel
theorem dX9_drawn_143 : decode cX9_drawn 143 = .ok (.l2i, 1) := by decide +kernel
theorem dX9_drawn_144 : decode cX9_drawn 144 = .ok (.ishl, 1) := by decide +kernel
theorem dX9_drawn_145 : decode cX9_drawn 145 = .ok (.ixor, 1) := by decide +kernel
theorem dX9_drawn_146 : decode cX9_drawn 146 = .ok (.iastore, 1) := by decide +kernel
theorem dX9_drawn_147 : decode cX9_drawn 147 = .ok (.aload_n 0, 1) := by decide +kernel
theorem dX9_drawn_148 : decode cX9_drawn 148 = .ok (.sipush 1053, 3) := by decide +kernel
theorem dX9_drawn_151 : decode cX9_drawn 151 = .ok (.lload 4, 2) := by decide +kernel
theorem dX9_drawn_153 : decode cX9_drawn 153 = .ok (.ldc2_w 58, 3) := by decide +kernel
theorem dX9_drawn_156 : decode cX9_drawn 156 = .ok (.lrem, 1) := by decide +kernel
theorem dX9_drawn_157 : decode cX9_drawn 157 = .ok (.l2i, 1) := by decide +kernel
theorem dX9_drawn_158 : decode cX9_drawn 158 = .ok (.invokevirtual 179, 3) := by decide +kernel
theorem dX9_drawn_161 : decode cX9_drawn 161 = .ok (.istore 8, 2) := by decide +kernel
theorem dX9_drawn_163 : decode cX9_drawn 163 = .ok (.iload 8, 2) := by decide +kernel
theorem dX9_drawn_165 : decode cX9_drawn 165 = .ok (.ldc 128, 2) := by decide +kernel
theorem dX9_drawn_167 : decode cX9_drawn 167 = .ok (.if_icmp .eq 17, 3) := by decide +kernel
theorem dX9_drawn_170 : decode cX9_drawn 170 = .ok (.aload_n 0, 1) := by decide +kernel
theorem dX9_drawn_171 : decode cX9_drawn 171 = .ok (.getfield 50, 3) := by decide +kernel
theorem dX9_drawn_174 : decode cX9_drawn 174 = .ok (.iload 8, 2) := by decide +kernel
theorem dX9_drawn_176 : decode cX9_drawn 176 = .ok (.dup2, 1) := by decide +kernel
theorem dX9_drawn_177 : decode cX9_drawn 177 = .ok (.iaload, 1) := by decide +kernel
theorem dX9_drawn_178 : decode cX9_drawn 178 = .ok (.iconst 1, 1) := by decide +kernel
theorem dX9_drawn_179 : decode cX9_drawn 179 = .ok (.iadd, 1) := by decide +kernel
theorem dX9_drawn_180 : decode cX9_drawn 180 = .ok (.iastore, 1) := by decide +kernel
theorem dX9_drawn_181 : decode cX9_drawn 181 = .ok (.iinc 6 1, 3) := by decide +kernel
theorem dX9_drawn_184 : decode cX9_drawn 184 = .ok (.iinc 7 1, 3) := by decide +kernel
theorem dX9_drawn_187 : decode cX9_drawn 187 = .ok (.goto (-102), 3) := by decide +kernel
theorem dX9_drawn_190 : decode cX9_drawn 190 = .ok (.ldc 128, 2) := by decide +kernel
theorem dX9_drawn_192 : decode cX9_drawn 192 = .ok (.istore 7, 2) := by decide +kernel
theorem dX9_drawn_194 : decode cX9_drawn 194 = .ok (.iconst 0, 1) := by decide +kernel
theorem dX9_drawn_195 : decode cX9_drawn 195 = .ok (.istore 8, 2) := by decide +kernel
theorem dX9_drawn_197 : decode cX9_drawn 197 = .ok (.iconst 0, 1) := by decide +kernel
theorem dX9_drawn_198 : decode cX9_drawn 198 = .ok (.istore 9, 2) := by decide +kernel
theorem dX9_drawn_200 : decode cX9_drawn 200 = .ok (.iload 9, 2) := by decide +kernel
theorem dX9_drawn_202 : decode cX9_drawn 202 = .ok (.bipush 6, 2) := by decide +kernel
theorem dX9_drawn_204 : decode cX9_drawn 204 = .ok (.if_icmp .ge 56, 3) := by decide +kernel
theorem dX9_drawn_207 : decode cX9_drawn 207 = .ok (.aload_n 0, 1) := by decide +kernel
theorem dX9_drawn_208 : decode cX9_drawn 208 = .ok (.getfield 50, 3) := by decide +kernel
theorem dX9_drawn_211 : decode cX9_drawn 211 = .ok (.iload 9, 2) := by decide +kernel
theorem dX9_drawn_213 : decode cX9_drawn 213 = .ok (.iaload, 1) := by decide +kernel
theorem dX9_drawn_214 : decode cX9_drawn 214 = .ok (.iload 8, 2) := by decide +kernel
theorem dX9_drawn_216 : decode cX9_drawn 216 = .ok (.if_icmp .le 8, 3) := by decide +kernel
theorem dX9_drawn_219 : decode cX9_drawn 219 = .ok (.iload 9, 2) := by decide +kernel
theorem dX9_drawn_221 : decode cX9_drawn 221 = .ok (.goto 5, 3) := by decide +kernel
theorem dX9_drawn_224 : decode cX9_drawn 224 = .ok (.iload 7, 2) := by decide +kernel
theorem dX9_drawn_226 : decode cX9_drawn 226 = .ok (.istore 7, 2) := by decide +kernel
theorem dX9_drawn_228 : decode cX9_drawn 228 = .ok (.aload_n 0, 1) := by decide +kernel
theorem dX9_drawn_229 : decode cX9_drawn 229 = .ok (.getfield 50, 3) := by decide +kernel
theorem dX9_drawn_232 : decode cX9_drawn 232 = .ok (.iload 9, 2) := by decide +kernel
theorem dX9_drawn_234 : decode cX9_drawn 234 = .ok (.iaload, 1) := by decide +kernel
theorem dX9_drawn_235 : decode cX9_drawn 235 = .ok (.iload 8, 2) := by decide +kernel
theorem dX9_drawn_237 : decode cX9_drawn 237 = .ok (.if_icmp .le 13, 3) := by decide +kernel
theorem dX9_drawn_240 : decode cX9_drawn 240 = .ok (.aload_n 0, 1) := by decide +kernel
theorem dX9_drawn_241 : decode cX9_drawn 241 = .ok (.getfield 50, 3) := by decide +kernel
theorem dX9_drawn_244 : decode cX9_drawn 244 = .ok (.iload 9, 2) := by decide +kernel
theorem dX9_drawn_246 : decode cX9_drawn 246 = .ok (.iaload, 1) := by decide +kernel
theorem dX9_drawn_247 : decode cX9_drawn 247 = .ok (.goto 5, 3) := by decide +kernel
theorem dX9_drawn_250 : decode cX9_drawn 250 = .ok (.iload 8, 2) := by decide +kernel
theorem dX9_drawn_252 : decode cX9_drawn 252 = .ok (.istore 8, 2) := by decide +kernel
theorem dX9_drawn_254 : decode cX9_drawn 254 = .ok (.iinc 9 1, 3) := by decide +kernel
theorem dX9_drawn_257 : decode cX9_drawn 257 = .ok (.goto (-57), 3) := by decide +kernel
theorem dX9_drawn_260 : decode cX9_drawn 260 = .ok (.iload_n 3, 1) := by decide +kernel
theorem dX9_drawn_261 : decode cX9_drawn 261 = .ok (.ifCond .ne 8, 3) := by decide +kernel
theorem dX9_drawn_264 : decode cX9_drawn 264 = .ok (.iload 6, 2) := by decide +kernel
theorem dX9_drawn_266 : decode cX9_drawn 266 = .ok (.goto 5, 3) := by decide +kernel
theorem dX9_drawn_269 : decode cX9_drawn 269 = .ok (.iload 7, 2) := by decide +kernel
theorem dX9_drawn_271 : decode cX9_drawn 271 = .ok (.ireturn, 1) := by decide +kernel
theorem dX9_image_0 : decode cX9_image 0 = .ok (.iload_n 1, 1) := by decide +kernel
theorem dX9_image_1 : decode cX9_image 1 = .ok (.i2l, 1) := by decide +kernel
theorem dX9_image_2 : decode cX9_image 2 = .ok (.lconst 0, 1) := by decide +kernel
theorem dX9_image_3 : decode cX9_image 3 = .ok (.lconst 1, 1) := by decide +kernel
theorem dX9_image_4 : decode cX9_image 4 = .ok (.invokestatic 60, 3) := by decide +kernel
theorem dX9_image_7 : decode cX9_image 7 = .ok (.ifCond .ne 6, 3) := by decide +kernel
theorem dX9_image_10 : decode cX9_image 10 = .ok (.ldc 70, 2) := by decide +kernel
theorem dX9_image_12 : decode cX9_image 12 = .ok (.ireturn, 1) := by decide +kernel
theorem dX9_image_13 : decode cX9_image 13 = .ok (.aload_n 0, 1) := by decide +kernel
theorem dX9_image_14 : decode cX9_image 14 = .ok (.getfield 150, 3) := by decide +kernel
theorem dX9_image_17 : decode cX9_image 17 = .ok (.ifCond .ne 6, 3) := by decide +kernel
theorem dX9_image_20 : decode cX9_image 20 = .ok (.ldc 157, 2) := by decide +kernel
theorem dX9_image_22 : decode cX9_image 22 = .ok (.ireturn, 1) := by decide +kernel
theorem dX9_image_23 : decode cX9_image 23 = .ok (.aload_n 0, 1) := by decide +kernel
theorem dX9_image_24 : decode cX9_image 24 = .ok (.iconst 0, 1) := by decide +kernel
theorem dX9_image_25 : decode cX9_image 25 = .ok (.sipush 975, 3) := by decide +kernel
theorem dX9_image_28 : decode cX9_image 28 = .ok (.bipush 39, 2) := by decide +kernel
theorem dX9_image_30 : decode cX9_image 30 = .ok (.iload_n 1, 1) := by decide +kernel
theorem dX9_image_31 : decode cX9_image 31 = .ok (.imul, 1) := by decide +kernel
theorem dX9_image_32 : decode cX9_image 32 = .ok (.iadd, 1) := by decide +kernel
theorem dX9_image_33 : decode cX9_image 33 = .ok (.invokevirtual 146, 3) := by decide +kernel
theorem dX9_image_36 : decode cX9_image 36 = .ok (.aload_n 0, 1) := by decide +kernel
theorem dX9_image_37 : decode cX9_image 37 = .ok (.getfield 13, 3) := by decide +kernel
theorem dX9_image_40 : decode cX9_image 40 = .ok (.iload_n 1, 1) := by decide +kernel
theorem dX9_image_41 : decode cX9_image 41 = .ok (.iconst 1, 1) := by decide +kernel
theorem dX9_image_42 : decode cX9_image 42 = .ok (.bastore, 1) := by decide +kernel
theorem dX9_image_43 : decode cX9_image 43 = .ok (.iconst 1, 1) := by decide +kernel
theorem dX9_image_44 : decode cX9_image 44 = .ok (.ireturn, 1) := by decide +kernel
theorem dX9_restore_0 : decode cX9_restore 0 = .ok (.iload_n 1, 1) := by decide +kernel
theorem dX9_restore_1 : decode cX9_restore 1 = .ok (.i2l, 1) := by decide +kernel
theorem dX9_restore_2 : decode cX9_restore 2 = .ok (.lconst 0, 1) := by decide +kernel
theorem dX9_restore_3 : decode cX9_restore 3 = .ok (.lconst 1, 1) := by decide +kernel
theorem dX9_restore_4 : decode cX9_restore 4 = .ok (.invokestatic 60, 3) := by decide +kernel
theorem dX9_restore_7 : decode cX9_restore 7 = .ok (.ifCond .ne 6, 3) := by decide +kernel
theorem dX9_restore_10 : decode cX9_restore 10 = .ok (.ldc 70, 2) := by decide +kernel
theorem dX9_restore_12 : decode cX9_restore 12 = .ok (.ireturn, 1) := by decide +kernel
theorem dX9_restore_13 : decode cX9_restore 13 = .ok (.aload_n 0, 1) := by decide +kernel
theorem dX9_restore_14 : decode cX9_restore 14 = .ok (.getfield 13, 3) := by decide +kernel
theorem dX9_restore_17 : decode cX9_restore 17 = .ok (.iload_n 1, 1) := by decide +kernel
theorem dX9_restore_18 : decode cX9_restore 18 = .ok (.baload, 1) := by decide +kernel
theorem dX9_restore_19 : decode cX9_restore 19 = .ok (.ifCond .ne 6, 3) := by decide +kernel
theorem dX9_restore_22 : decode cX9_restore 22 = .ok (.ldc 157, 2) := by decide +kernel
theorem dX9_restore_24 : decode cX9_restore 24 = .ok (.ireturn, 1) := by decide +kernel
theorem dX9_restore_25 : decode cX9_restore 25 = .ok (.aload_n 0, 1) := by decide +kernel
theorem dX9_restore_26 : decode cX9_restore 26 = .ok (.sipush 975, 3) := by decide +kernel
theorem dX9_restore_29 : decode cX9_restore 29 = .ok (.bipush 39, 2) := by decide +kernel
theorem dX9_restore_31 : decode cX9_restore 31 = .ok (.iload_n 1, 1) := by decide +kernel
theorem dX9_restore_32 : decode cX9_restore 32 = .ok (.imul, 1) := by decide +kernel
theorem dX9_restore_33 : decode cX9_restore 33 = .ok (.iadd, 1) := by decide +kernel
theorem dX9_restore_34 : decode cX9_restore 34 = .ok (.iconst 0, 1) := by decide +kernel
theorem dX9_restore_35 : decode cX9_restore 35 = .ok (.invokevirtual 146, 3) := by decide +kernel
theorem dX9_restore_38 : decode cX9_restore 38 = .ok (.aload_n 0, 1) := by decide +kernel
theorem dX9_restore_39 : decode cX9_restore 39 = .ok (.iconst 0, 1) := by decide +kernel
theorem dX9_restore_40 : decode cX9_restore 40 = .ok (.putfield 154, 3) := by decide +kernel
theorem dX9_restore_43 : decode cX9_restore 43 = .ok (.iconst 1, 1) := by decide +kernel
theorem dX9_restore_44 : decode cX9_restore 44 = .ok (.ireturn, 1) := by decide +kernel
theorem dX9_kind_0 : decode cX9_kind 0 = .ok (.aload_n 0, 1) := by decide +kernel
theorem dX9_kind_1 : decode cX9_kind 1 = .ok (.iload_n 1, 1) := by decide +kernel
theorem dX9_kind_2 : decode cX9_kind 2 = .ok (.invokevirtual 193, 3) := by decide +kernel
theorem dX9_kind_5 : decode cX9_kind 5 = .ok (.ifCond .eq 15, 3) := by decide +kernel
theorem dX9_kind_8 : decode cX9_kind 8 = .ok (.aload_n 0, 1) := by decide +kernel
theorem dX9_kind_9 : decode cX9_kind 9 = .ok (.getfield 7, 3) := by decide +kernel
theorem dX9_kind_12 : decode cX9_kind 12 = .ok (.bipush 9, 2) := by decide +kernel
theorem dX9_kind_14 : decode cX9_kind 14 = .ok (.iload_n 1, 1) := by decide +kernel
theorem dX9_kind_15 : decode cX9_kind 15 = .ok (.iadd, 1) := by decide +kernel
theorem dX9_kind_16 : decode cX9_kind 16 = .ok (.iaload, 1) := by decide +kernel
theorem dX9_kind_17 : decode cX9_kind 17 = .ok (.goto 5, 3) := by decide +kernel
theorem dX9_kind_20 : decode cX9_kind 20 = .ok (.ldc 70, 2) := by decide +kernel
theorem dX9_kind_22 : decode cX9_kind 22 = .ok (.ireturn, 1) := by decide +kernel
theorem dX9_isOf_0 : decode cX9_isOf 0 = .ok (.aload_n 0, 1) := by decide +kernel
theorem dX9_isOf_1 : decode cX9_isOf 1 = .ok (.getfield 7, 3) := by decide +kernel
theorem dX9_isOf_4 : decode cX9_isOf 4 = .ok (.bipush 9, 2) := by decide +kernel
theorem dX9_isOf_6 : decode cX9_isOf 6 = .ok (.iload_n 1, 1) := by decide +kernel
theorem dX9_isOf_7 : decode cX9_isOf 7 = .ok (.iadd, 1) := by decide +kernel
theorem dX9_isOf_8 : decode cX9_isOf 8 = .ok (.iaload, 1) := by decide +kernel
theorem dX9_isOf_9 : decode cX9_isOf 9 = .ok (.istore_n 3, 1) := by decide +kernel
theorem dX9_isOf_10 : decode cX9_isOf 10 = .ok (.iload_n 2, 1) := by decide +kernel
theorem dX9_isOf_11 : decode cX9_isOf 11 = .ok (.ifCond .eq 33, 3) := by decide +kernel
theorem dX9_isOf_14 : decode cX9_isOf 14 = .ok (.iload_n 2, 1) := by decide +kernel
theorem dX9_isOf_15 : decode cX9_isOf 15 = .ok (.iload_n 3, 1) := by decide +kernel
theorem dX9_isOf_16 : decode cX9_isOf 16 = .ok (.if_icmp .eq 28, 3) := by decide +kernel
theorem dX9_isOf_19 : decode cX9_isOf 19 = .ok (.iload_n 2, 1) := by decide +kernel
theorem dX9_isOf_20 : decode cX9_isOf 20 = .ok (.iconst 1, 1) := by decide +kernel
theorem dX9_isOf_21 : decode cX9_isOf 21 = .ok (.if_icmp .ne 13, 3) := by decide +kernel
theorem dX9_isOf_24 : decode cX9_isOf 24 = .ok (.iload_n 3, 1) := by decide +kernel
theorem dX9_isOf_25 : decode cX9_isOf 25 = .ok (.iconst 2, 1) := by decide +kernel
theorem dX9_isOf_26 : decode cX9_isOf 26 = .ok (.if_icmp .eq 18, 3) := by decide +kernel
theorem dX9_isOf_29 : decode cX9_isOf 29 = .ok (.iload_n 3, 1) := by decide +kernel
theorem dX9_isOf_30 : decode cX9_isOf 30 = .ok (.iconst 3, 1) := by decide +kernel
theorem dX9_isOf_31 : decode cX9_isOf 31 = .ok (.if_icmp .eq 13, 3) := by decide +kernel
theorem dX9_isOf_34 : decode cX9_isOf 34 = .ok (.iload_n 2, 1) := by decide +kernel
theorem dX9_isOf_35 : decode cX9_isOf 35 = .ok (.iconst 4, 1) := by decide +kernel
theorem dX9_isOf_36 : decode cX9_isOf 36 = .ok (.if_icmp .ne 12, 3) := by decide +kernel
theorem dX9_isOf_39 : decode cX9_isOf 39 = .ok (.iload_n 3, 1) := by decide +kernel
theorem dX9_isOf_40 : decode cX9_isOf 40 = .ok (.iconst 5, 1) := by decide +kernel
theorem dX9_isOf_41 : decode cX9_isOf 41 = .ok (.if_icmp .ne 7, 3) := by decide +kernel
theorem dX9_isOf_44 : decode cX9_isOf 44 = .ok (.iconst 1, 1) := by decide +kernel
theorem dX9_isOf_45 : decode cX9_isOf 45 = .ok (.goto 4, 3) := by decide +kernel
theorem dX9_isOf_48 : decode cX9_isOf 48 = .ok (.iconst 0, 1) := by decide +kernel
theorem dX9_isOf_49 : decode cX9_isOf 49 = .ok (.ireturn, 1) := by decide +kernel
theorem dX9_as_0 : decode cX9_as 0 = .ok (.aload_n 0, 1) := by decide +kernel
theorem dX9_as_1 : decode cX9_as 1 = .ok (.iload_n 1, 1) := by decide +kernel
theorem dX9_as_2 : decode cX9_as 2 = .ok (.invokevirtual 193, 3) := by decide +kernel
theorem dX9_as_5 : decode cX9_as 5 = .ok (.ifCond .eq 15, 3) := by decide +kernel
theorem dX9_as_8 : decode cX9_as 8 = .ok (.iload_n 2, 1) := by decide +kernel
theorem dX9_as_9 : decode cX9_as 9 = .ok (.i2l, 1) := by decide +kernel
theorem dX9_as_10 : decode cX9_as 10 = .ok (.lconst 0, 1) := by decide +kernel
theorem dX9_as_11 : decode cX9_as 11 = .ok (.ldc2_w 251, 3) := by decide +kernel
theorem dX9_as_14 : decode cX9_as 14 = .ok (.invokestatic 60, 3) := by decide +kernel
theorem dX9_as_17 : decode cX9_as 17 = .ok (.ifCond .ne 6, 3) := by decide +kernel
theorem dX9_as_20 : decode cX9_as 20 = .ok (.ldc 70, 2) := by decide +kernel
theorem dX9_as_22 : decode cX9_as 22 = .ok (.ireturn, 1) := by decide +kernel
theorem dX9_as_23 : decode cX9_as 23 = .ok (.aload_n 0, 1) := by decide +kernel
theorem dX9_as_24 : decode cX9_as 24 = .ok (.iload_n 1, 1) := by decide +kernel
theorem dX9_as_25 : decode cX9_as 25 = .ok (.iload_n 2, 1) := by decide +kernel
theorem dX9_as_26 : decode cX9_as 26 = .ok (.invokevirtual 253, 3) := by decide +kernel
theorem dX9_as_29 : decode cX9_as 29 = .ok (.ifCond .eq 11, 3) := by decide +kernel
theorem dX9_as_32 : decode cX9_as 32 = .ok (.aload_n 0, 1) := by decide +kernel
theorem dX9_as_33 : decode cX9_as 33 = .ok (.iload_n 1, 1) := by decide +kernel
theorem dX9_as_34 : decode cX9_as 34 = .ok (.invokevirtual 75, 3) := by decide +kernel
theorem dX9_as_37 : decode cX9_as 37 = .ok (.goto 8, 3) := by decide +kernel
theorem dX9_as_40 : decode cX9_as 40 = .ok (.aload_n 0, 1) := by decide +kernel
theorem dX9_as_41 : decode cX9_as 41 = .ok (.iconst 3, 1) := by decide +kernel
theorem dX9_as_42 : decode cX9_as 42 = .ok (.invokevirtual 71, 3) := by decide +kernel
theorem dX9_as_45 : decode cX9_as 45 = .ok (.ireturn, 1) := by decide +kernel
theorem dX9_begin_0 : decode cX9_begin 0 = .ok (.aload_n 0, 1) := by decide +kernel
theorem dX9_begin_1 : decode cX9_begin 1 = .ok (.getfield 256, 3) := by decide +kernel
theorem dX9_begin_4 : decode cX9_begin 4 = .ok (.bipush 16, 2) := by decide +kernel
theorem dX9_begin_6 : decode cX9_begin 6 = .ok (.if_icmp .ge 23, 3) := by decide +kernel
theorem dX9_begin_9 : decode cX9_begin 9 = .ok (.aload_n 0, 1) := by decide +kernel
theorem dX9_begin_10 : decode cX9_begin 10 = .ok (.getfield 29, 3) := by decide +kernel
theorem dX9_begin_13 : decode cX9_begin 13 = .ok (.aload_n 0, 1) := by decide +kernel
theorem dX9_begin_14 : decode cX9_begin 14 = .ok (.getfield 256, 3) := by decide +kernel
theorem dX9_begin_17 : decode cX9_begin 17 = .ok (.iload_n 1, 1) := by decide +kernel
theorem dX9_begin_18 : decode cX9_begin 18 = .ok (.iastore, 1) := by decide +kernel
theorem dX9_begin_19 : decode cX9_begin 19 = .ok (.aload_n 0, 1) := by decide +kernel
theorem dX9_begin_20 : decode cX9_begin 20 = .ok (.dup, 1) := by decide +kernel
theorem dX9_begin_21 : decode cX9_begin 21 = .ok (.getfield 256, 3) := by decide +kernel
theorem dX9_begin_24 : decode cX9_begin 24 = .ok (.iconst 1, 1) := by decide +kernel
theorem dX9_begin_25 : decode cX9_begin 25 = .ok (.iadd, 1) := by decide +kernel
theorem dX9_begin_26 : decode cX9_begin 26 = .ok (.putfield 256, 3) := by decide +kernel
theorem dX9_begin_29 : decode cX9_begin 29 = .ok (.return_, 1) := by decide +kernel
theorem dX9_lentSize_0 : decode cX9_lentSize 0 = .ok (.aload_n 0, 1) := by decide +kernel
theorem dX9_lentSize_1 : decode cX9_lentSize 1 = .ok (.bipush 10, 2) := by decide +kernel
theorem dX9_lentSize_3 : decode cX9_lentSize 3 = .ok (.invokevirtual 259, 3) := by decide +kernel
theorem dX9_lentSize_6 : decode cX9_lentSize 6 = .ok (.aload_n 0, 1) := by decide +kernel
theorem dX9_lentSize_7 : decode cX9_lentSize 7 = .ok (.getfield 7, 3) := by decide +kernel
theorem dX9_lentSize_10 : decode cX9_lentSize 10 = .ok (.bipush 15, 2) := by decide +kernel
theorem dX9_lentSize_12 : decode cX9_lentSize 12 = .ok (.iload_n 1, 1) := by decide +kernel
theorem dX9_lentSize_13 : decode cX9_lentSize 13 = .ok (.iadd, 1) := by decide +kernel
theorem dX9_lentSize_14 : decode cX9_lentSize 14 = .ok (.iaload, 1) := by decide +kernel
theorem dX9_lentSize_15 : decode cX9_lentSize 15 = .ok (.ireturn, 1) := by decide +kernel
theorem dX9_doorSize_0 : decode cX9_doorSize 0 = .ok (.aload_n 0, 1) := by decide +kernel
theorem dX9_doorSize_1 : decode cX9_doorSize 1 = .ok (.bipush 11, 2) := by decide +kernel
theorem dX9_doorSize_3 : decode cX9_doorSize 3 = .ok (.invokevirtual 259, 3) := by decide +kernel
theorem dX9_doorSize_6 : decode cX9_doorSize 6 = .ok (.aload_n 0, 1) := by decide +kernel
theorem dX9_doorSize_7 : decode cX9_doorSize 7 = .ok (.iload_n 1, 1) := by decide +kernel
theorem dX9_doorSize_8 : decode cX9_doorSize 8 = .ok (.invokevirtual 263, 3) := by decide +kernel
theorem dX9_doorSize_11 : decode cX9_doorSize 11 = .ok (.istore_n 2, 1) := by decide +kernel
theorem dX9_doorSize_12 : decode cX9_doorSize 12 = .ok (.iload_n 2, 1) := by decide +kernel
theorem dX9_doorSize_13 : decode cX9_doorSize 13 = .ok (.aload_n 0, 1) := by decide +kernel
theorem dX9_doorSize_14 : decode cX9_doorSize 14 = .ok (.iload_n 1, 1) := by decide +kernel
theorem dX9_doorSize_15 : decode cX9_doorSize 15 = .ok (.invokevirtual 266, 3) := by decide +kernel
theorem dX9_doorSize_18 : decode cX9_doorSize 18 = .ok (.iadd, 1) := by decide +kernel
theorem dX9_doorSize_19 : decode cX9_doorSize 19 = .ok (.ireturn, 1) := by decide +kernel
theorem dX9_wallSize_0 : decode cX9_wallSize 0 = .ok (.aload_n 0, 1) := by decide +kernel
theorem dX9_wallSize_1 : decode cX9_wallSize 1 = .ok (.bipush 13, 2) := by decide +kernel
theorem dX9_wallSize_3 : decode cX9_wallSize 3 = .ok (.invokevirtual 259, 3) := by decide +kernel
theorem dX9_wallSize_6 : decode cX9_wallSize 6 = .ok (.aload_n 0, 1) := by decide +kernel
theorem dX9_wallSize_7 : decode cX9_wallSize 7 = .ok (.iload_n 1, 1) := by decide +kernel
theorem dX9_wallSize_8 : decode cX9_wallSize 8 = .ok (.invokevirtual 263, 3) := by decide +kernel
theorem dX9_wallSize_11 : decode cX9_wallSize 11 = .ok (.bipush 100, 2) := by decide +kernel
theorem dX9_wallSize_13 : decode cX9_wallSize 13 = .ok (.isub, 1) := by decide +kernel
theorem dX9_wallSize_14 : decode cX9_wallSize 14 = .ok (.ireturn, 1) := by decide +kernel
theorem dX9_sizeOf_0 : decode cX9_sizeOf 0 = .ok (.aload_n 0, 1) := by decide +kernel
theorem dX9_sizeOf_1 : decode cX9_sizeOf 1 = .ok (.getfield 7, 3) := by decide +kernel
theorem dX9_sizeOf_4 : decode cX9_sizeOf 4 = .ok (.bipush 9, 2) := by decide +kernel
theorem dX9_sizeOf_6 : decode cX9_sizeOf 6 = .ok (.iload_n 1, 1) := by decide +kernel
theorem dX9_sizeOf_7 : decode cX9_sizeOf 7 = .ok (.iadd, 1) := by decide +kernel
theorem dX9_sizeOf_8 : decode cX9_sizeOf 8 = .ok (.iaload, 1) := by decide +kernel
theorem dX9_sizeOf_9 : decode cX9_sizeOf 9 = .ok (.tableswitch 64 2 5 #[31, 64, 44, 50], 31) := by decide +kernel
theorem dX9_sizeOf_40 : decode cX9_sizeOf 40 = .ok (.aload_n 0, 1) := by decide +kernel
theorem dX9_sizeOf_41 : decode cX9_sizeOf 41 = .ok (.bipush 12, 2) := by decide +kernel
theorem dX9_sizeOf_43 : decode cX9_sizeOf 43 = .ok (.invokevirtual 259, 3) := by decide +kernel
theorem dX9_sizeOf_46 : decode cX9_sizeOf 46 = .ok (.aload_n 0, 1) := by decide +kernel
theorem dX9_sizeOf_47 : decode cX9_sizeOf 47 = .ok (.iload_n 1, 1) := by decide +kernel
theorem dX9_sizeOf_48 : decode cX9_sizeOf 48 = .ok (.invokevirtual 269, 3) := by decide +kernel
theorem dX9_sizeOf_51 : decode cX9_sizeOf 51 = .ok (.ineg, 1) := by decide +kernel
theorem dX9_sizeOf_52 : decode cX9_sizeOf 52 = .ok (.ireturn, 1) := by decide +kernel
theorem dX9_sizeOf_53 : decode cX9_sizeOf 53 = .ok (.aload_n 0, 1) := by decide +kernel
theorem dX9_sizeOf_54 : decode cX9_sizeOf 54 = .ok (.iload_n 1, 1) := by decide +kernel
theorem dX9_sizeOf_55 : decode cX9_sizeOf 55 = .ok (.invokevirtual 272, 3) := by decide +kernel
theorem dX9_sizeOf_58 : decode cX9_sizeOf 58 = .ok (.ireturn, 1) := by decide +kernel
theorem dX9_sizeOf_59 : decode cX9_sizeOf 59 = .ok (.aload_n 0, 1) := by decide +kernel
theorem dX9_sizeOf_60 : decode cX9_sizeOf 60 = .ok (.bipush 14, 2) := by decide +kernel
theorem dX9_sizeOf_62 : decode cX9_sizeOf 62 = .ok (.invokevirtual 259, 3) := by decide +kernel
theorem dX9_sizeOf_65 : decode cX9_sizeOf 65 = .ok (.iconst 2, 1) := by decide +kernel
theorem dX9_sizeOf_66 : decode cX9_sizeOf 66 = .ok (.aload_n 0, 1) := by decide +kernel
theorem dX9_sizeOf_67 : decode cX9_sizeOf 67 = .ok (.iload_n 1, 1) := by decide +kernel
theorem dX9_sizeOf_68 : decode cX9_sizeOf 68 = .ok (.invokevirtual 272, 3) := by decide +kernel
theorem dX9_sizeOf_71 : decode cX9_sizeOf 71 = .ok (.imul, 1) := by decide +kernel
theorem dX9_sizeOf_72 : decode cX9_sizeOf 72 = .ok (.ireturn, 1) := by decide +kernel
theorem dX9_sizeOf_73 : decode cX9_sizeOf 73 = .ok (.aload_n 0, 1) := by decide +kernel
theorem dX9_sizeOf_74 : decode cX9_sizeOf 74 = .ok (.iload_n 1, 1) := by decide +kernel
theorem dX9_sizeOf_75 : decode cX9_sizeOf 75 = .ok (.invokevirtual 269, 3) := by decide +kernel
theorem dX9_sizeOf_78 : decode cX9_sizeOf 78 = .ok (.ireturn, 1) := by decide +kernel
theorem dX9_lentMark_0 : decode cX9_lentMark 0 = .ok (.aload_n 0, 1) := by decide +kernel
theorem dX9_lentMark_1 : decode cX9_lentMark 1 = .ok (.bipush 20, 2) := by decide +kernel
theorem dX9_lentMark_3 : decode cX9_lentMark 3 = .ok (.invokevirtual 259, 3) := by decide +kernel
theorem dX9_lentMark_6 : decode cX9_lentMark 6 = .ok (.iload_n 1, 1) := by decide +kernel
theorem dX9_lentMark_7 : decode cX9_lentMark 7 = .ok (.ireturn, 1) := by decide +kernel
theorem dX9_doorMark_0 : decode cX9_doorMark 0 = .ok (.aload_n 0, 1) := by decide +kernel
theorem dX9_doorMark_1 : decode cX9_doorMark 1 = .ok (.bipush 21, 2) := by decide +kernel
theorem dX9_doorMark_3 : decode cX9_doorMark 3 = .ok (.invokevirtual 259, 3) := by decide +kernel
theorem dX9_doorMark_6 : decode cX9_doorMark 6 = .ok (.aload_n 0, 1) := by decide +kernel
theorem dX9_doorMark_7 : decode cX9_doorMark 7 = .ok (.iload_n 1, 1) := by decide +kernel
theorem dX9_doorMark_8 : decode cX9_doorMark 8 = .ok (.invokevirtual 275, 3) := by decide +kernel
theorem dX9_doorMark_11 : decode cX9_doorMark 11 = .ok (.aload_n 0, 1) := by decide +kernel
theorem dX9_doorMark_12 : decode cX9_doorMark 12 = .ok (.getfield 7, 3) := by decide +kernel
theorem dX9_doorMark_15 : decode cX9_doorMark 15 = .ok (.bipush 33, 2) := by decide +kernel
theorem dX9_doorMark_17 : decode cX9_doorMark 17 = .ok (.iload_n 1, 1) := by decide +kernel
theorem dX9_doorMark_18 : decode cX9_doorMark 18 = .ok (.iadd, 1) := by decide +kernel
theorem dX9_doorMark_19 : decode cX9_doorMark 19 = .ok (.iaload, 1) := by decide +kernel
theorem dX9_doorMark_20 : decode cX9_doorMark 20 = .ok (.iadd, 1) := by decide +kernel
theorem dX9_doorMark_21 : decode cX9_doorMark 21 = .ok (.ireturn, 1) := by decide +kernel
theorem dX9_mark_0 : decode cX9_mark 0 = .ok (.aload_n 0, 1) := by decide +kernel
theorem dX9_mark_1 : decode cX9_mark 1 = .ok (.getfield 7, 3) := by decide +kernel
theorem dX9_mark_4 : decode cX9_mark 4 = .ok (.bipush 9, 2) := by decide +kernel
theorem dX9_mark_6 : decode cX9_mark 6 = .ok (.iload_n 1, 1) := by decide +kernel
theorem dX9_mark_7 : decode cX9_mark 7 = .ok (.iadd, 1) := by decide +kernel
theorem dX9_mark_8 : decode cX9_mark 8 = .ok (.iaload, 1) := by decide +kernel
theorem dX9_mark_9 : decode cX9_mark 9 = .ok (.lookupswitch 57 #[(2, 43), (3, 27)], 27) := by decide +kernel
theorem dX9_mark_36 : decode cX9_mark 36 = .ok (.aload_n 0, 1) := by decide +kernel
theorem dX9_mark_37 : decode cX9_mark 37 = .ok (.bipush 22, 2) := by decide +kernel
theorem dX9_mark_39 : decode cX9_mark 39 = .ok (.invokevirtual 259, 3) := by decide +kernel
theorem dX9_mark_42 : decode cX9_mark 42 = .ok (.aload_n 0, 1) := by decide +kernel
theorem dX9_mark_43 : decode cX9_mark 43 = .ok (.iload_n 1, 1) := by decide +kernel
theorem dX9_mark_44 : decode cX9_mark 44 = .ok (.invokevirtual 278, 3) := by decide +kernel
theorem dX9_mark_47 : decode cX9_mark 47 = .ok (.sipush 1000, 3) := by decide +kernel
theorem dX9_mark_50 : decode cX9_mark 50 = .ok (.isub, 1) := by decide +kernel
theorem dX9_mark_51 : decode cX9_mark 51 = .ok (.ireturn, 1) := by decide +kernel
theorem dX9_mark_52 : decode cX9_mark 52 = .ok (.aload_n 0, 1) := by decide +kernel
theorem dX9_mark_53 : decode cX9_mark 53 = .ok (.bipush 24, 2) := by decide +kernel
theorem dX9_mark_55 : decode cX9_mark 55 = .ok (.invokevirtual 259, 3) := by decide +kernel
theorem dX9_mark_58 : decode cX9_mark 58 = .ok (.iconst 2, 1) := by decide +kernel
theorem dX9_mark_59 : decode cX9_mark 59 = .ok (.aload_n 0, 1) := by decide +kernel
theorem dX9_mark_60 : decode cX9_mark 60 = .ok (.iload_n 1, 1) := by decide +kernel
theorem dX9_mark_61 : decode cX9_mark 61 = .ok (.invokevirtual 278, 3) := by decide +kernel
theorem dX9_mark_64 : decode cX9_mark 64 = .ok (.imul, 1) := by decide +kernel
theorem dX9_mark_65 : decode cX9_mark 65 = .ok (.ireturn, 1) := by decide +kernel
theorem dX9_mark_66 : decode cX9_mark 66 = .ok (.aload_n 0, 1) := by decide +kernel
theorem dX9_mark_67 : decode cX9_mark 67 = .ok (.iload_n 1, 1) := by decide +kernel
theorem dX9_mark_68 : decode cX9_mark 68 = .ok (.invokevirtual 278, 3) := by decide +kernel
theorem dX9_mark_71 : decode cX9_mark 71 = .ok (.ireturn, 1) := by decide +kernel
theorem dX9_wallMark_0 : decode cX9_wallMark 0 = .ok (.aload_n 0, 1) := by decide +kernel
theorem dX9_wallMark_1 : decode cX9_wallMark 1 = .ok (.bipush 23, 2) := by decide +kernel
