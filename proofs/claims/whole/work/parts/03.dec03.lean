theorem dX9_feed_1 : decode cX9_feed 1 = .ok (.i2l, 1) := by decide +kernel
theorem dX9_feed_2 : decode cX9_feed 2 = .ok (.lconst 0, 1) := by decide +kernel
theorem dX9_feed_3 : decode cX9_feed 3 = .ok (.ldc2_w 86, 3) := by decide +kernel
theorem dX9_feed_6 : decode cX9_feed 6 = .ok (.invokestatic 60, 3) := by decide +kernel
theorem dX9_feed_9 : decode cX9_feed 9 = .ok (.ifCond .ne 6, 3) := by decide +kernel
theorem dX9_feed_12 : decode cX9_feed 12 = .ok (.ldc 70, 2) := by decide +kernel
theorem dX9_feed_14 : decode cX9_feed 14 = .ok (.ireturn, 1) := by decide +kernel
theorem dX9_feed_15 : decode cX9_feed 15 = .ok (.aload_n 0, 1) := by decide +kernel
theorem dX9_feed_16 : decode cX9_feed 16 = .ok (.getfield 88, 3) := by decide +kernel
theorem dX9_feed_19 : decode cX9_feed 19 = .ok (.bipush 100, 2) := by decide +kernel
theorem dX9_feed_21 : decode cX9_feed 21 = .ok (.if_icmp .ne 6, 3) := by decide +kernel
theorem dX9_feed_24 : decode cX9_feed 24 = .ok (.ldc 91, 2) := by decide +kernel
theorem dX9_feed_26 : decode cX9_feed 26 = .ok (.ireturn, 1) := by decide +kernel
theorem dX9_feed_27 : decode cX9_feed 27 = .ok (.aload_n 0, 1) := by decide +kernel
theorem dX9_feed_28 : decode cX9_feed 28 = .ok (.getfield 26, 3) := by decide +kernel
theorem dX9_feed_31 : decode cX9_feed 31 = .ok (.aload_n 0, 1) := by decide +kernel
theorem dX9_feed_32 : decode cX9_feed 32 = .ok (.getfield 88, 3) := by decide +kernel
theorem dX9_feed_35 : decode cX9_feed 35 = .ok (.iload_n 1, 1) := by decide +kernel
theorem dX9_feed_36 : decode cX9_feed 36 = .ok (.iastore, 1) := by decide +kernel
theorem dX9_feed_37 : decode cX9_feed 37 = .ok (.aload_n 0, 1) := by decide +kernel
theorem dX9_feed_38 : decode cX9_feed 38 = .ok (.dup, 1) := by decide +kernel
theorem dX9_feed_39 : decode cX9_feed 39 = .ok (.getfield 88, 3) := by decide +kernel
theorem dX9_feed_42 : decode cX9_feed 42 = .ok (.iconst 1, 1) := by decide +kernel
theorem dX9_feed_43 : decode cX9_feed 43 = .ok (.iadd, 1) := by decide +kernel
theorem dX9_feed_44 : decode cX9_feed 44 = .ok (.putfield 88, 3) := by decide +kernel
theorem dX9_feed_47 : decode cX9_feed 47 = .ok (.aload_n 0, 1) := by decide +kernel
theorem dX9_feed_48 : decode cX9_feed 48 = .ok (.getfield 88, 3) := by decide +kernel
theorem dX9_feed_51 : decode cX9_feed 51 = .ok (.ireturn, 1) := by decide +kernel
theorem dX9_isLetter_0 : decode cX9_isLetter 0 = .ok (.aload_n 0, 1) := by decide +kernel
theorem dX9_isLetter_1 : decode cX9_isLetter 1 = .ok (.getfield 92, 3) := by decide +kernel
theorem dX9_isLetter_4 : decode cX9_isLetter 4 = .ok (.aload_n 0, 1) := by decide +kernel
theorem dX9_isLetter_5 : decode cX9_isLetter 5 = .ok (.getfield 88, 3) := by decide +kernel
theorem dX9_isLetter_8 : decode cX9_isLetter 8 = .ok (.if_icmp .ge 20, 3) := by decide +kernel
theorem dX9_isLetter_11 : decode cX9_isLetter 11 = .ok (.aload_n 0, 1) := by decide +kernel
theorem dX9_isLetter_12 : decode cX9_isLetter 12 = .ok (.getfield 26, 3) := by decide +kernel
theorem dX9_isLetter_15 : decode cX9_isLetter 15 = .ok (.aload_n 0, 1) := by decide +kernel
theorem dX9_isLetter_16 : decode cX9_isLetter 16 = .ok (.getfield 92, 3) := by decide +kernel
theorem dX9_isLetter_19 : decode cX9_isLetter 19 = .ok (.iaload, 1) := by decide +kernel
theorem dX9_isLetter_20 : decode cX9_isLetter 20 = .ok (.iload_n 1, 1) := by decide +kernel
theorem dX9_isLetter_21 : decode cX9_isLetter 21 = .ok (.if_icmp .ne 7, 3) := by decide +kernel
theorem dX9_isLetter_24 : decode cX9_isLetter 24 = .ok (.iconst 1, 1) := by decide +kernel
theorem dX9_isLetter_25 : decode cX9_isLetter 25 = .ok (.goto 4, 3) := by decide +kernel
theorem dX9_isLetter_28 : decode cX9_isLetter 28 = .ok (.iconst 0, 1) := by decide +kernel
theorem dX9_isLetter_29 : decode cX9_isLetter 29 = .ok (.ireturn, 1) := by decide +kernel
theorem dX9_isFigure_0 : decode cX9_isFigure 0 = .ok (.iload_n 1, 1) := by decide +kernel
theorem dX9_isFigure_1 : decode cX9_isFigure 1 = .ok (.aload_n 0, 1) := by decide +kernel
theorem dX9_isFigure_2 : decode cX9_isFigure 2 = .ok (.getfield 88, 3) := by decide +kernel
theorem dX9_isFigure_5 : decode cX9_isFigure 5 = .ok (.if_icmp .ge 26, 3) := by decide +kernel
theorem dX9_isFigure_8 : decode cX9_isFigure 8 = .ok (.aload_n 0, 1) := by decide +kernel
theorem dX9_isFigure_9 : decode cX9_isFigure 9 = .ok (.getfield 26, 3) := by decide +kernel
theorem dX9_isFigure_12 : decode cX9_isFigure 12 = .ok (.iload_n 1, 1) := by decide +kernel
theorem dX9_isFigure_13 : decode cX9_isFigure 13 = .ok (.iaload, 1) := by decide +kernel
theorem dX9_isFigure_14 : decode cX9_isFigure 14 = .ok (.i2l, 1) := by decide +kernel
theorem dX9_isFigure_15 : decode cX9_isFigure 15 = .ok (.ldc2_w 95, 3) := by decide +kernel
theorem dX9_isFigure_18 : decode cX9_isFigure 18 = .ok (.ldc2_w 97, 3) := by decide +kernel
theorem dX9_isFigure_21 : decode cX9_isFigure 21 = .ok (.invokestatic 60, 3) := by decide +kernel
theorem dX9_isFigure_24 : decode cX9_isFigure 24 = .ok (.ifCond .eq 7, 3) := by decide +kernel
theorem dX9_isFigure_27 : decode cX9_isFigure 27 = .ok (.iconst 1, 1) := by decide +kernel
theorem dX9_isFigure_28 : decode cX9_isFigure 28 = .ok (.goto 4, 3) := by decide +kernel
theorem dX9_isFigure_31 : decode cX9_isFigure 31 = .ok (.iconst 0, 1) := by decide +kernel
theorem dX9_isFigure_32 : decode cX9_isFigure 32 = .ok (.ireturn, 1) := by decide +kernel
theorem dX9_refuse_0 : decode cX9_refuse 0 = .ok (.aload_n 0, 1) := by decide +kernel
theorem dX9_refuse_1 : decode cX9_refuse 1 = .ok (.iload_n 1, 1) := by decide +kernel
theorem dX9_refuse_2 : decode cX9_refuse 2 = .ok (.putfield 99, 3) := by decide +kernel
theorem dX9_refuse_5 : decode cX9_refuse 5 = .ok (.iconst 0, 1) := by decide +kernel
theorem dX9_refuse_6 : decode cX9_refuse 6 = .ok (.ireturn, 1) := by decide +kernel
theorem dX9_sign_0 : decode cX9_sign 0 = .ok (.aload_n 0, 1) := by decide +kernel
theorem dX9_sign_1 : decode cX9_sign 1 = .ok (.iload_n 1, 1) := by decide +kernel
theorem dX9_sign_2 : decode cX9_sign 2 = .ok (.invokevirtual 102, 3) := by decide +kernel
theorem dX9_sign_5 : decode cX9_sign 5 = .ok (.ifCond .ne 9, 3) := by decide +kernel
theorem dX9_sign_8 : decode cX9_sign 8 = .ok (.aload_n 0, 1) := by decide +kernel
theorem dX9_sign_9 : decode cX9_sign 9 = .ok (.iconst 1, 1) := by decide +kernel
theorem dX9_sign_10 : decode cX9_sign 10 = .ok (.invokevirtual 105, 3) := by decide +kernel
theorem dX9_sign_13 : decode cX9_sign 13 = .ok (.ireturn, 1) := by decide +kernel
theorem dX9_sign_14 : decode cX9_sign 14 = .ok (.aload_n 0, 1) := by decide +kernel
theorem dX9_sign_15 : decode cX9_sign 15 = .ok (.dup, 1) := by decide +kernel
theorem dX9_sign_16 : decode cX9_sign 16 = .ok (.getfield 92, 3) := by decide +kernel
theorem dX9_sign_19 : decode cX9_sign 19 = .ok (.iconst 1, 1) := by decide +kernel
theorem dX9_sign_20 : decode cX9_sign 20 = .ok (.iadd, 1) := by decide +kernel
theorem dX9_sign_21 : decode cX9_sign 21 = .ok (.putfield 92, 3) := by decide +kernel
theorem dX9_sign_24 : decode cX9_sign 24 = .ok (.iconst 1, 1) := by decide +kernel
theorem dX9_sign_25 : decode cX9_sign 25 = .ok (.ireturn, 1) := by decide +kernel
theorem dX9_readsNumber_0 : decode cX9_readsNumber 0 = .ok (.aload_n 0, 1) := by decide +kernel
theorem dX9_readsNumber_1 : decode cX9_readsNumber 1 = .ok (.aload_n 0, 1) := by decide +kernel
theorem dX9_readsNumber_2 : decode cX9_readsNumber 2 = .ok (.getfield 92, 3) := by decide +kernel
theorem dX9_readsNumber_5 : decode cX9_readsNumber 5 = .ok (.invokevirtual 108, 3) := by decide +kernel
theorem dX9_readsNumber_8 : decode cX9_readsNumber 8 = .ok (.ifCond .eq 29, 3) := by decide +kernel
theorem dX9_readsNumber_11 : decode cX9_readsNumber 11 = .ok (.aload_n 0, 1) := by decide +kernel
theorem dX9_readsNumber_12 : decode cX9_readsNumber 12 = .ok (.aload_n 0, 1) := by decide +kernel
theorem dX9_readsNumber_13 : decode cX9_readsNumber 13 = .ok (.getfield 92, 3) := by decide +kernel
theorem dX9_readsNumber_16 : decode cX9_readsNumber 16 = .ok (.iconst 1, 1) := by decide +kernel
theorem dX9_readsNumber_17 : decode cX9_readsNumber 17 = .ok (.iadd, 1) := by decide +kernel
theorem dX9_readsNumber_18 : decode cX9_readsNumber 18 = .ok (.invokevirtual 108, 3) := by decide +kernel
theorem dX9_readsNumber_21 : decode cX9_readsNumber 21 = .ok (.ifCond .eq 22, 3) := by decide +kernel
theorem dX9_readsNumber_24 : decode cX9_readsNumber 24 = .ok (.aload_n 0, 1) := by decide +kernel
theorem dX9_readsNumber_25 : decode cX9_readsNumber 25 = .ok (.aload_n 0, 1) := by decide +kernel
theorem dX9_readsNumber_26 : decode cX9_readsNumber 26 = .ok (.getfield 92, 3) := by decide +kernel
theorem dX9_readsNumber_29 : decode cX9_readsNumber 29 = .ok (.iconst 2, 1) := by decide +kernel
theorem dX9_readsNumber_30 : decode cX9_readsNumber 30 = .ok (.iadd, 1) := by decide +kernel
theorem dX9_readsNumber_31 : decode cX9_readsNumber 31 = .ok (.invokevirtual 108, 3) := by decide +kernel
theorem dX9_readsNumber_34 : decode cX9_readsNumber 34 = .ok (.ifCond .eq 9, 3) := by decide +kernel
theorem dX9_readsNumber_37 : decode cX9_readsNumber 37 = .ok (.aload_n 0, 1) := by decide +kernel
theorem dX9_readsNumber_38 : decode cX9_readsNumber 38 = .ok (.iconst 1, 1) := by decide +kernel
theorem dX9_readsNumber_39 : decode cX9_readsNumber 39 = .ok (.invokevirtual 105, 3) := by decide +kernel
theorem dX9_readsNumber_42 : decode cX9_readsNumber 42 = .ok (.ireturn, 1) := by decide +kernel
theorem dX9_readsNumber_43 : decode cX9_readsNumber 43 = .ok (.aload_n 0, 1) := by decide +kernel
theorem dX9_readsNumber_44 : decode cX9_readsNumber 44 = .ok (.aload_n 0, 1) := by decide +kernel
theorem dX9_readsNumber_45 : decode cX9_readsNumber 45 = .ok (.getfield 26, 3) := by decide +kernel
theorem dX9_readsNumber_48 : decode cX9_readsNumber 48 = .ok (.aload_n 0, 1) := by decide +kernel
theorem dX9_readsNumber_49 : decode cX9_readsNumber 49 = .ok (.getfield 92, 3) := by decide +kernel
theorem dX9_readsNumber_52 : decode cX9_readsNumber 52 = .ok (.iaload, 1) := by decide +kernel
theorem dX9_readsNumber_53 : decode cX9_readsNumber 53 = .ok (.bipush 48, 2) := by decide +kernel
theorem dX9_readsNumber_55 : decode cX9_readsNumber 55 = .ok (.isub, 1) := by decide +kernel
theorem dX9_readsNumber_56 : decode cX9_readsNumber 56 = .ok (.putfield 111, 3) := by decide +kernel
theorem dX9_readsNumber_59 : decode cX9_readsNumber 59 = .ok (.aload_n 0, 1) := by decide +kernel
theorem dX9_readsNumber_60 : decode cX9_readsNumber 60 = .ok (.aload_n 0, 1) := by decide +kernel
theorem dX9_readsNumber_61 : decode cX9_readsNumber 61 = .ok (.getfield 92, 3) := by decide +kernel
theorem dX9_readsNumber_64 : decode cX9_readsNumber 64 = .ok (.iconst 1, 1) := by decide +kernel
theorem dX9_readsNumber_65 : decode cX9_readsNumber 65 = .ok (.iadd, 1) := by decide +kernel
theorem dX9_readsNumber_66 : decode cX9_readsNumber 66 = .ok (.invokevirtual 108, 3) := by decide +kernel
theorem dX9_readsNumber_69 : decode cX9_readsNumber 69 = .ok (.ifCond .eq 7, 3) := by decide +kernel
theorem dX9_readsNumber_72 : decode cX9_readsNumber 72 = .ok (.iconst 2, 1) := by decide +kernel
theorem dX9_readsNumber_73 : decode cX9_readsNumber 73 = .ok (.goto 4, 3) := by decide +kernel
theorem dX9_readsNumber_76 : decode cX9_readsNumber 76 = .ok (.iconst 1, 1) := by decide +kernel
theorem dX9_readsNumber_77 : decode cX9_readsNumber 77 = .ok (.istore_n 3, 1) := by decide +kernel
theorem dX9_readsNumber_78 : decode cX9_readsNumber 78 = .ok (.aload_n 0, 1) := by decide +kernel
theorem dX9_readsNumber_79 : decode cX9_readsNumber 79 = .ok (.iload_n 3, 1) := by decide +kernel
theorem dX9_readsNumber_80 : decode cX9_readsNumber 80 = .ok (.iconst 2, 1) := by decide +kernel
theorem dX9_readsNumber_81 : decode cX9_readsNumber 81 = .ok (.if_icmp .ne 28, 3) := by decide +kernel
theorem dX9_readsNumber_84 : decode cX9_readsNumber 84 = .ok (.bipush 10, 2) := by decide +kernel
theorem dX9_readsNumber_86 : decode cX9_readsNumber 86 = .ok (.aload_n 0, 1) := by decide +kernel
theorem dX9_readsNumber_87 : decode cX9_readsNumber 87 = .ok (.getfield 111, 3) := by decide +kernel
theorem dX9_readsNumber_90 : decode cX9_readsNumber 90 = .ok (.imul, 1) := by decide +kernel
theorem dX9_readsNumber_91 : decode cX9_readsNumber 91 = .ok (.aload_n 0, 1) := by decide +kernel
theorem dX9_readsNumber_92 : decode cX9_readsNumber 92 = .ok (.getfield 26, 3) := by decide +kernel
theorem dX9_readsNumber_95 : decode cX9_readsNumber 95 = .ok (.aload_n 0, 1) := by decide +kernel
theorem dX9_readsNumber_96 : decode cX9_readsNumber 96 = .ok (.getfield 92, 3) := by decide +kernel
theorem dX9_readsNumber_99 : decode cX9_readsNumber 99 = .ok (.iconst 1, 1) := by decide +kernel
theorem dX9_readsNumber_100 : decode cX9_readsNumber 100 = .ok (.iadd, 1) := by decide +kernel
theorem dX9_readsNumber_101 : decode cX9_readsNumber 101 = .ok (.iaload, 1) := by decide +kernel
theorem dX9_readsNumber_102 : decode cX9_readsNumber 102 = .ok (.iadd, 1) := by decide +kernel
theorem dX9_readsNumber_103 : decode cX9_readsNumber 103 = .ok (.bipush 48, 2) := by decide +kernel
theorem dX9_readsNumber_105 : decode cX9_readsNumber 105 = .ok (.isub, 1) := by decide +kernel
theorem dX9_readsNumber_106 : decode cX9_readsNumber 106 = .ok (.goto 7, 3) := by decide +kernel
theorem dX9_readsNumber_109 : decode cX9_readsNumber 109 = .ok (.aload_n 0, 1) := by decide +kernel
theorem dX9_readsNumber_110 : decode cX9_readsNumber 110 = .ok (.getfield 111, 3) := by decide +kernel
theorem dX9_readsNumber_113 : decode cX9_readsNumber 113 = .ok (.putfield 111, 3) := by decide +kernel
theorem dX9_readsNumber_116 : decode cX9_readsNumber 116 = .ok (.aload_n 0, 1) := by decide +kernel
theorem dX9_readsNumber_117 : decode cX9_readsNumber 117 = .ok (.getfield 111, 3) := by decide +kernel
theorem dX9_readsNumber_120 : decode cX9_readsNumber 120 = .ok (.i2l, 1) := by decide +kernel
theorem dX9_readsNumber_121 : decode cX9_readsNumber 121 = .ok (.iload_n 1, 1) := by decide +kernel
theorem dX9_readsNumber_122 : decode cX9_readsNumber 122 = .ok (.i2l, 1) := by decide +kernel
theorem dX9_readsNumber_123 : decode cX9_readsNumber 123 = .ok (.iload_n 2, 1) := by decide +kernel
theorem dX9_readsNumber_124 : decode cX9_readsNumber 124 = .ok (.i2l, 1) := by decide +kernel
theorem dX9_readsNumber_125 : decode cX9_readsNumber 125 = .ok (.invokestatic 60, 3) := by decide +kernel
theorem dX9_readsNumber_128 : decode cX9_readsNumber 128 = .ok (.ifCond .ne 9, 3) := by decide +kernel
theorem dX9_readsNumber_131 : decode cX9_readsNumber 131 = .ok (.aload_n 0, 1) := by decide +kernel
theorem dX9_readsNumber_132 : decode cX9_readsNumber 132 = .ok (.iconst 2, 1) := by decide +kernel
theorem dX9_readsNumber_133 : decode cX9_readsNumber 133 = .ok (.invokevirtual 105, 3) := by decide +kernel
theorem dX9_readsNumber_136 : decode cX9_readsNumber 136 = .ok (.ireturn, 1) := by decide +kernel
theorem dX9_readsNumber_137 : decode cX9_readsNumber 137 = .ok (.aload_n 0, 1) := by decide +kernel
theorem dX9_readsNumber_138 : decode cX9_readsNumber 138 = .ok (.dup, 1) := by decide +kernel
theorem dX9_readsNumber_139 : decode cX9_readsNumber 139 = .ok (.getfield 92, 3) := by decide +kernel
theorem dX9_readsNumber_142 : decode cX9_readsNumber 142 = .ok (.iload_n 3, 1) := by decide +kernel
theorem dX9_readsNumber_143 : decode cX9_readsNumber 143 = .ok (.iadd, 1) := by decide +kernel
theorem dX9_readsNumber_144 : decode cX9_readsNumber 144 = .ok (.putfield 92, 3) := by decide +kernel
theorem dX9_readsNumber_147 : decode cX9_readsNumber 147 = .ok (.iconst 1, 1) := by decide +kernel
theorem dX9_readsNumber_148 : decode cX9_readsNumber 148 = .ok (.ireturn, 1) := by decide +kernel
theorem dX9_readsLaw_0 : decode cX9_readsLaw 0 = .ok (.aload_n 0, 1) := by decide +kernel
theorem dX9_readsLaw_1 : decode cX9_readsLaw 1 = .ok (.bipush 99, 2) := by decide +kernel
theorem dX9_readsLaw_3 : decode cX9_readsLaw 3 = .ok (.invokevirtual 114, 3) := by decide +kernel
theorem dX9_readsLaw_6 : decode cX9_readsLaw 6 = .ok (.ifCond .ne 5, 3) := by decide +kernel
theorem dX9_readsLaw_9 : decode cX9_readsLaw 9 = .ok (.iconst 0, 1) := by decide +kernel
theorem dX9_readsLaw_10 : decode cX9_readsLaw 10 = .ok (.ireturn, 1) := by decide +kernel
theorem dX9_readsLaw_11 : decode cX9_readsLaw 11 = .ok (.iconst 0, 1) := by decide +kernel
theorem dX9_readsLaw_12 : decode cX9_readsLaw 12 = .ok (.istore_n 1, 1) := by decide +kernel
theorem dX9_readsLaw_13 : decode cX9_readsLaw 13 = .ok (.iload_n 1, 1) := by decide +kernel
theorem dX9_readsLaw_14 : decode cX9_readsLaw 14 = .ok (.bipush 6, 2) := by decide +kernel
theorem dX9_readsLaw_16 : decode cX9_readsLaw 16 = .ok (.if_icmp .ge 62, 3) := by decide +kernel
theorem dX9_readsLaw_19 : decode cX9_readsLaw 19 = .ok (.iload_n 1, 1) := by decide +kernel
theorem dX9_readsLaw_20 : decode cX9_readsLaw 20 = .ok (.ifCond .le 12, 3) := by decide +kernel
theorem dX9_readsLaw_23 : decode cX9_readsLaw 23 = .ok (.aload_n 0, 1) := by decide +kernel
theorem dX9_readsLaw_24 : decode cX9_readsLaw 24 = .ok (.bipush 44, 2) := by decide +kernel
theorem dX9_readsLaw_26 : decode cX9_readsLaw 26 = .ok (.invokevirtual 114, 3) := by decide +kernel
theorem dX9_readsLaw_29 : decode cX9_readsLaw 29 = .ok (.ifCond .eq 22, 3) := by decide +kernel
theorem dX9_readsLaw_32 : decode cX9_readsLaw 32 = .ok (.aload_n 0, 1) := by decide +kernel
theorem dX9_readsLaw_33 : decode cX9_readsLaw 33 = .ok (.aload_n 0, 1) := by decide +kernel
theorem dX9_readsLaw_34 : decode cX9_readsLaw 34 = .ok (.getfield 32, 3) := by decide +kernel
theorem dX9_readsLaw_37 : decode cX9_readsLaw 37 = .ok (.iload_n 1, 1) := by decide +kernel
theorem dX9_readsLaw_38 : decode cX9_readsLaw 38 = .ok (.iaload, 1) := by decide +kernel
theorem dX9_readsLaw_39 : decode cX9_readsLaw 39 = .ok (.aload_n 0, 1) := by decide +kernel
theorem dX9_readsLaw_40 : decode cX9_readsLaw 40 = .ok (.getfield 35, 3) := by decide +kernel
theorem dX9_readsLaw_43 : decode cX9_readsLaw 43 = .ok (.iload_n 1, 1) := by decide +kernel
theorem dX9_readsLaw_44 : decode cX9_readsLaw 44 = .ok (.iaload, 1) := by decide +kernel
theorem dX9_readsLaw_45 : decode cX9_readsLaw 45 = .ok (.invokevirtual 117, 3) := by decide +kernel
theorem dX9_readsLaw_48 : decode cX9_readsLaw 48 = .ok (.ifCond .ne 5, 3) := by decide +kernel
theorem dX9_readsLaw_51 : decode cX9_readsLaw 51 = .ok (.iconst 0, 1) := by decide +kernel
theorem dX9_readsLaw_52 : decode cX9_readsLaw 52 = .ok (.ireturn, 1) := by decide +kernel
theorem dX9_readsLaw_53 : decode cX9_readsLaw 53 = .ok (.aload_n 0, 1) := by decide +kernel
theorem dX9_readsLaw_54 : decode cX9_readsLaw 54 = .ok (.getfield 7, 3) := by decide +kernel
theorem dX9_readsLaw_57 : decode cX9_readsLaw 57 = .ok (.sipush 1053, 3) := by decide +kernel
theorem dX9_readsLaw_60 : decode cX9_readsLaw 60 = .ok (.aload_n 0, 1) := by decide +kernel
theorem dX9_readsLaw_61 : decode cX9_readsLaw 61 = .ok (.getfield 38, 3) := by decide +kernel
theorem dX9_readsLaw_64 : decode cX9_readsLaw 64 = .ok (.iload_n 1, 1) := by decide +kernel
theorem dX9_readsLaw_65 : decode cX9_readsLaw 65 = .ok (.iaload, 1) := by decide +kernel
theorem dX9_readsLaw_66 : decode cX9_readsLaw 66 = .ok (.iadd, 1) := by decide +kernel
theorem dX9_readsLaw_67 : decode cX9_readsLaw 67 = .ok (.aload_n 0, 1) := by decide +kernel
theorem dX9_readsLaw_68 : decode cX9_readsLaw 68 = .ok (.getfield 111, 3) := by decide +kernel
theorem dX9_readsLaw_71 : decode cX9_readsLaw 71 = .ok (.iastore, 1) := by decide +kernel
theorem dX9_readsLaw_72 : decode cX9_readsLaw 72 = .ok (.iinc 1 1, 3) := by decide +kernel
theorem dX9_readsLaw_75 : decode cX9_readsLaw 75 = .ok (.goto (-62), 3) := by decide +kernel
theorem dX9_readsLaw_78 : decode cX9_readsLaw 78 = .ok (.aload_n 0, 1) := by decide +kernel
theorem dX9_readsLaw_79 : decode cX9_readsLaw 79 = .ok (.bipush 59, 2) := by decide +kernel
theorem dX9_readsLaw_81 : decode cX9_readsLaw 81 = .ok (.invokevirtual 114, 3) := by decide +kernel
theorem dX9_readsLaw_84 : decode cX9_readsLaw 84 = .ok (.ireturn, 1) := by decide +kernel
theorem dX9_kindOfLetter_0 : decode cX9_kindOfLetter 0 = .ok (.iload_n 0, 1) := by decide +kernel
theorem dX9_kindOfLetter_1 : decode cX9_kindOfLetter 1 = .ok (.bipush 100, 2) := by decide +kernel
theorem dX9_kindOfLetter_3 : decode cX9_kindOfLetter 3 = .ok (.if_icmp .ne 7, 3) := by decide +kernel
theorem dX9_kindOfLetter_6 : decode cX9_kindOfLetter 6 = .ok (.iconst 1, 1) := by decide +kernel
theorem dX9_kindOfLetter_7 : decode cX9_kindOfLetter 7 = .ok (.goto 44, 3) := by decide +kernel
theorem dX9_kindOfLetter_10 : decode cX9_kindOfLetter 10 = .ok (.iload_n 0, 1) := by decide +kernel
theorem dX9_kindOfLetter_11 : decode cX9_kindOfLetter 11 = .ok (.bipush 112, 2) := by decide +kernel
theorem dX9_kindOfLetter_13 : decode cX9_kindOfLetter 13 = .ok (.if_icmp .ne 7, 3) := by decide +kernel
theorem dX9_kindOfLetter_16 : decode cX9_kindOfLetter 16 = .ok (.iconst 2, 1) := by decide +kernel
theorem dX9_kindOfLetter_17 : decode cX9_kindOfLetter 17 = .ok (.goto 34, 3) := by decide +kernel
theorem dX9_kindOfLetter_20 : decode cX9_kindOfLetter 20 = .ok (.iload_n 0, 1) := by decide +kernel
theorem dX9_kindOfLetter_21 : decode cX9_kindOfLetter 21 = .ok (.bipush 109, 2) := by decide +kernel
theorem dX9_kindOfLetter_23 : decode cX9_kindOfLetter 23 = .ok (.if_icmp .ne 7, 3) := by decide +kernel
theorem dX9_kindOfLetter_26 : decode cX9_kindOfLetter 26 = .ok (.iconst 3, 1) := by decide +kernel
theorem dX9_kindOfLetter_27 : decode cX9_kindOfLetter 27 = .ok (.goto 24, 3) := by decide +kernel
theorem dX9_kindOfLetter_30 : decode cX9_kindOfLetter 30 = .ok (.iload_n 0, 1) := by decide +kernel
theorem dX9_kindOfLetter_31 : decode cX9_kindOfLetter 31 = .ok (.bipush 119, 2) := by decide +kernel
theorem dX9_kindOfLetter_33 : decode cX9_kindOfLetter 33 = .ok (.if_icmp .ne 7, 3) := by decide +kernel
theorem dX9_kindOfLetter_36 : decode cX9_kindOfLetter 36 = .ok (.iconst 4, 1) := by decide +kernel
theorem dX9_kindOfLetter_37 : decode cX9_kindOfLetter 37 = .ok (.goto 14, 3) := by decide +kernel
theorem dX9_kindOfLetter_40 : decode cX9_kindOfLetter 40 = .ok (.iload_n 0, 1) := by decide +kernel
theorem dX9_kindOfLetter_41 : decode cX9_kindOfLetter 41 = .ok (.bipush 117, 2) := by decide +kernel
theorem dX9_kindOfLetter_43 : decode cX9_kindOfLetter 43 = .ok (.if_icmp .ne 7, 3) := by decide +kernel
theorem dX9_kindOfLetter_46 : decode cX9_kindOfLetter 46 = .ok (.iconst 5, 1) := by decide +kernel
theorem dX9_kindOfLetter_47 : decode cX9_kindOfLetter 47 = .ok (.goto 4, 3) := by decide +kernel
theorem dX9_kindOfLetter_50 : decode cX9_kindOfLetter 50 = .ok (.iconst 0, 1) := by decide +kernel
theorem dX9_kindOfLetter_51 : decode cX9_kindOfLetter 51 = .ok (.ireturn, 1) := by decide +kernel
theorem dX9_readsHouse_0 : decode cX9_readsHouse 0 = .ok (.aload_n 0, 1) := by decide +kernel
theorem dX9_readsHouse_1 : decode cX9_readsHouse 1 = .ok (.getfield 7, 3) := by decide +kernel
theorem dX9_readsHouse_4 : decode cX9_readsHouse 4 = .ok (.sipush 1054, 3) := by decide +kernel
theorem dX9_readsHouse_7 : decode cX9_readsHouse 7 = .ok (.iaload, 1) := by decide +kernel
theorem dX9_readsHouse_8 : decode cX9_readsHouse 8 = .ok (.istore_n 1, 1) := by decide +kernel
theorem dX9_readsHouse_9 : decode cX9_readsHouse 9 = .ok (.iload_n 1, 1) := by decide +kernel
theorem dX9_readsHouse_10 : decode cX9_readsHouse 10 = .ok (.bipush 6, 2) := by decide +kernel
theorem dX9_readsHouse_12 : decode cX9_readsHouse 12 = .ok (.if_icmp .ne 9, 3) := by decide +kernel
theorem dX9_readsHouse_15 : decode cX9_readsHouse 15 = .ok (.aload_n 0, 1) := by decide +kernel
theorem dX9_readsHouse_16 : decode cX9_readsHouse 16 = .ok (.iconst 3, 1) := by decide +kernel
theorem dX9_readsHouse_17 : decode cX9_readsHouse 17 = .ok (.invokevirtual 105, 3) := by decide +kernel
theorem dX9_readsHouse_20 : decode cX9_readsHouse 20 = .ok (.ireturn, 1) := by decide +kernel
theorem dX9_readsHouse_21 : decode cX9_readsHouse 21 = .ok (.aload_n 0, 1) := by decide +kernel
theorem dX9_readsHouse_22 : decode cX9_readsHouse 22 = .ok (.getfield 7, 3) := by decide +kernel
theorem dX9_readsHouse_25 : decode cX9_readsHouse 25 = .ok (.sipush 1062, 3) := by decide +kernel
theorem dX9_readsHouse_28 : decode cX9_readsHouse 28 = .ok (.iload_n 1, 1) := by decide +kernel
theorem dX9_readsHouse_29 : decode cX9_readsHouse 29 = .ok (.iadd, 1) := by decide +kernel
theorem dX9_readsHouse_30 : decode cX9_readsHouse 30 = .ok (.aload_n 0, 1) := by decide +kernel
theorem dX9_readsHouse_31 : decode cX9_readsHouse 31 = .ok (.getfield 26, 3) := by decide +kernel
theorem dX9_readsHouse_34 : decode cX9_readsHouse 34 = .ok (.aload_n 0, 1) := by decide +kernel
theorem dX9_readsHouse_35 : decode cX9_readsHouse 35 = .ok (.getfield 92, 3) := by decide +kernel
theorem dX9_readsHouse_38 : decode cX9_readsHouse 38 = .ok (.iaload, 1) := by decide +kernel
theorem dX9_readsHouse_39 : decode cX9_readsHouse 39 = .ok (.invokestatic 121, 3) := by decide +kernel
theorem dX9_readsHouse_42 : decode cX9_readsHouse 42 = .ok (.iastore, 1) := by decide +kernel
theorem dX9_readsHouse_43 : decode cX9_readsHouse 43 = .ok (.aload_n 0, 1) := by decide +kernel
theorem dX9_readsHouse_44 : decode cX9_readsHouse 44 = .ok (.dup, 1) := by decide +kernel
theorem dX9_readsHouse_45 : decode cX9_readsHouse 45 = .ok (.getfield 92, 3) := by decide +kernel
theorem dX9_readsHouse_48 : decode cX9_readsHouse 48 = .ok (.iconst 1, 1) := by decide +kernel
theorem dX9_readsHouse_49 : decode cX9_readsHouse 49 = .ok (.iadd, 1) := by decide +kernel
theorem dX9_readsHouse_50 : decode cX9_readsHouse 50 = .ok (.putfield 92, 3) := by decide +kernel
theorem dX9_readsHouse_53 : decode cX9_readsHouse 53 = .ok (.aload_n 0, 1) := by decide +kernel
theorem dX9_readsHouse_54 : decode cX9_readsHouse 54 = .ok (.iconst 1, 1) := by decide +kernel
theorem dX9_readsHouse_55 : decode cX9_readsHouse 55 = .ok (.aload_n 0, 1) := by decide +kernel
theorem dX9_readsHouse_56 : decode cX9_readsHouse 56 = .ok (.getfield 7, 3) := by decide +kernel
theorem dX9_readsHouse_59 : decode cX9_readsHouse 59 = .ok (.sipush 1053, 3) := by decide +kernel
theorem dX9_readsHouse_62 : decode cX9_readsHouse 62 = .ok (.iaload, 1) := by decide +kernel
theorem dX9_readsHouse_63 : decode cX9_readsHouse 63 = .ok (.invokevirtual 117, 3) := by decide +kernel
theorem dX9_readsHouse_66 : decode cX9_readsHouse 66 = .ok (.ifCond .ne 5, 3) := by decide +kernel
theorem dX9_readsHouse_69 : decode cX9_readsHouse 69 = .ok (.iconst 0, 1) := by decide +kernel
theorem dX9_readsHouse_70 : decode cX9_readsHouse 70 = .ok (.ireturn, 1) := by decide +kernel
theorem dX9_readsHouse_71 : decode cX9_readsHouse 71 = .ok (.aload_n 0, 1) := by decide +kernel
theorem dX9_readsHouse_72 : decode cX9_readsHouse 72 = .ok (.getfield 111, 3) := by decide +kernel
theorem dX9_readsHouse_75 : decode cX9_readsHouse 75 = .ok (.istore_n 2, 1) := by decide +kernel
theorem dX9_readsHouse_76 : decode cX9_readsHouse 76 = .ok (.aload_n 0, 1) := by decide +kernel
theorem dX9_readsHouse_77 : decode cX9_readsHouse 77 = .ok (.bipush 44, 2) := by decide +kernel
theorem dX9_readsHouse_79 : decode cX9_readsHouse 79 = .ok (.invokevirtual 114, 3) := by decide +kernel
theorem dX9_readsHouse_82 : decode cX9_readsHouse 82 = .ok (.ifCond .ne 5, 3) := by decide +kernel
theorem dX9_readsHouse_85 : decode cX9_readsHouse 85 = .ok (.iconst 0, 1) := by decide +kernel
theorem dX9_readsHouse_86 : decode cX9_readsHouse 86 = .ok (.ireturn, 1) := by decide +kernel
theorem dX9_readsHouse_87 : decode cX9_readsHouse 87 = .ok (.aload_n 0, 1) := by decide +kernel
theorem dX9_readsHouse_88 : decode cX9_readsHouse 88 = .ok (.getfield 92, 3) := by decide +kernel
theorem dX9_readsHouse_91 : decode cX9_readsHouse 91 = .ok (.istore_n 3, 1) := by decide +kernel
theorem dX9_readsHouse_92 : decode cX9_readsHouse 92 = .ok (.aload_n 0, 1) := by decide +kernel
theorem dX9_readsHouse_93 : decode cX9_readsHouse 93 = .ok (.iconst 0, 1) := by decide +kernel
theorem dX9_readsHouse_94 : decode cX9_readsHouse 94 = .ok (.bipush 6, 2) := by decide +kernel
theorem dX9_readsHouse_96 : decode cX9_readsHouse 96 = .ok (.invokevirtual 117, 3) := by decide +kernel
theorem dX9_readsHouse_99 : decode cX9_readsHouse 99 = .ok (.ifCond .ne 5, 3) := by decide +kernel
theorem dX9_readsHouse_102 : decode cX9_readsHouse 102 = .ok (.iconst 0, 1) := by decide +kernel
theorem dX9_readsHouse_103 : decode cX9_readsHouse 103 = .ok (.ireturn, 1) := by decide +kernel
theorem dX9_readsHouse_104 : decode cX9_readsHouse 104 = .ok (.aload_n 0, 1) := by decide +kernel
theorem dX9_readsHouse_105 : decode cX9_readsHouse 105 = .ok (.sipush 1053, 3) := by decide +kernel
theorem dX9_readsHouse_108 : decode cX9_readsHouse 108 = .ok (.iload_n 2, 1) := by decide +kernel
theorem dX9_readsHouse_109 : decode cX9_readsHouse 109 = .ok (.aload_n 0, 1) := by decide +kernel
theorem dX9_readsHouse_110 : decode cX9_readsHouse 110 = .ok (.getfield 111, 3) := by decide +kernel
theorem dX9_readsHouse_113 : decode cX9_readsHouse 113 = .ok (.invokevirtual 124, 3) := by decide +kernel
theorem dX9_readsHouse_116 : decode cX9_readsHouse 116 = .ok (.ldc 128, 2) := by decide +kernel
theorem dX9_readsHouse_118 : decode cX9_readsHouse 118 = .ok (.if_icmp .eq 14, 3) := by decide +kernel
theorem dX9_readsHouse_121 : decode cX9_readsHouse 121 = .ok (.aload_n 0, 1) := by decide +kernel
theorem dX9_readsHouse_122 : decode cX9_readsHouse 122 = .ok (.iload_n 3, 1) := by decide +kernel
theorem dX9_readsHouse_123 : decode cX9_readsHouse 123 = .ok (.putfield 92, 3) := by decide +kernel
theorem dX9_readsHouse_126 : decode cX9_readsHouse 126 = .ok (.aload_n 0, 1) := by decide +kernel
theorem dX9_readsHouse_127 : decode cX9_readsHouse 127 = .ok (.iconst 2, 1) := by decide +kernel
theorem dX9_readsHouse_128 : decode cX9_readsHouse 128 = .ok (.invokevirtual 105, 3) := by decide +kernel
theorem dX9_readsHouse_131 : decode cX9_readsHouse 131 = .ok (.ireturn, 1) := by decide +kernel
theorem dX9_readsHouse_132 : decode cX9_readsHouse 132 = .ok (.aload_n 0, 1) := by decide +kernel
theorem dX9_readsHouse_133 : decode cX9_readsHouse 133 = .ok (.getfield 7, 3) := by decide +kernel
theorem dX9_readsHouse_136 : decode cX9_readsHouse 136 = .ok (.sipush 1068, 3) := by decide +kernel
theorem dX9_readsHouse_139 : decode cX9_readsHouse 139 = .ok (.iload_n 1, 1) := by decide +kernel
theorem dX9_readsHouse_140 : decode cX9_readsHouse 140 = .ok (.iadd, 1) := by decide +kernel
theorem dX9_readsHouse_141 : decode cX9_readsHouse 141 = .ok (.iload_n 2, 1) := by decide +kernel
theorem dX9_readsHouse_142 : decode cX9_readsHouse 142 = .ok (.iastore, 1) := by decide +kernel
theorem dX9_readsHouse_143 : decode cX9_readsHouse 143 = .ok (.aload_n 0, 1) := by decide +kernel
theorem dX9_readsHouse_144 : decode cX9_readsHouse 144 = .ok (.getfield 7, 3) := by decide +kernel
theorem dX9_readsHouse_147 : decode cX9_readsHouse 147 = .ok (.sipush 1074, 3) := by decide +kernel
theorem dX9_readsHouse_150 : decode cX9_readsHouse 150 = .ok (.iload_n 1, 1) := by decide +kernel
theorem dX9_readsHouse_151 : decode cX9_readsHouse 151 = .ok (.iadd, 1) := by decide +kernel
theorem dX9_readsHouse_152 : decode cX9_readsHouse 152 = .ok (.aload_n 0, 1) := by decide +kernel
theorem dX9_readsHouse_153 : decode cX9_readsHouse 153 = .ok (.getfield 111, 3) := by decide +kernel
theorem dX9_readsHouse_156 : decode cX9_readsHouse 156 = .ok (.iastore, 1) := by decide +kernel
theorem dX9_readsHouse_157 : decode cX9_readsHouse 157 = .ok (.aload_n 0, 1) := by decide +kernel
theorem dX9_readsHouse_158 : decode cX9_readsHouse 158 = .ok (.bipush 44, 2) := by decide +kernel
theorem dX9_readsHouse_160 : decode cX9_readsHouse 160 = .ok (.invokevirtual 114, 3) := by decide +kernel
theorem dX9_readsHouse_163 : decode cX9_readsHouse 163 = .ok (.ifCond .eq 12, 3) := by decide +kernel
theorem dX9_readsHouse_166 : decode cX9_readsHouse 166 = .ok (.aload_n 0, 1) := by decide +kernel
theorem dX9_readsHouse_167 : decode cX9_readsHouse 167 = .ok (.iconst 0, 1) := by decide +kernel
theorem dX9_readsHouse_168 : decode cX9_readsHouse 168 = .ok (.iconst 1, 1) := by decide +kernel
theorem dX9_readsHouse_169 : decode cX9_readsHouse 169 = .ok (.invokevirtual 117, 3) := by decide +kernel
theorem dX9_readsHouse_172 : decode cX9_readsHouse 172 = .ok (.ifCond .ne 5, 3) := by decide +kernel
theorem dX9_readsHouse_175 : decode cX9_readsHouse 175 = .ok (.iconst 0, 1) := by decide +kernel
theorem dX9_readsHouse_176 : decode cX9_readsHouse 176 = .ok (.ireturn, 1) := by decide +kernel
theorem dX9_readsHouse_177 : decode cX9_readsHouse 177 = .ok (.aload_n 0, 1) := by decide +kernel
theorem dX9_readsHouse_178 : decode cX9_readsHouse 178 = .ok (.getfield 7, 3) := by decide +kernel
theorem dX9_readsHouse_181 : decode cX9_readsHouse 181 = .ok (.sipush 1080, 3) := by decide +kernel
theorem dX9_readsHouse_184 : decode cX9_readsHouse 184 = .ok (.iload_n 1, 1) := by decide +kernel
theorem dX9_readsHouse_185 : decode cX9_readsHouse 185 = .ok (.iadd, 1) := by decide +kernel
theorem dX9_readsHouse_186 : decode cX9_readsHouse 186 = .ok (.aload_n 0, 1) := by decide +kernel
theorem dX9_readsHouse_187 : decode cX9_readsHouse 187 = .ok (.getfield 111, 3) := by decide +kernel
theorem dX9_readsHouse_190 : decode cX9_readsHouse 190 = .ok (.iastore, 1) := by decide +kernel
theorem dX9_readsHouse_191 : decode cX9_readsHouse 191 = .ok (.aload_n 0, 1) := by decide +kernel
theorem dX9_readsHouse_192 : decode cX9_readsHouse 192 = .ok (.getfield 7, 3) := by decide +kernel
theorem dX9_readsHouse_195 : decode cX9_readsHouse 195 = .ok (.sipush 1054, 3) := by decide +kernel
theorem dX9_readsHouse_198 : decode cX9_readsHouse 198 = .ok (.dup2, 1) := by decide +kernel
theorem dX9_readsHouse_199 : decode cX9_readsHouse 199 = .ok (.iaload, 1) := by decide +kernel
theorem dX9_readsHouse_200 : decode cX9_readsHouse 200 = .ok (.iconst 1, 1) := by decide +kernel
theorem dX9_readsHouse_201 : decode cX9_readsHouse 201 = .ok (.iadd, 1) := by decide +kernel
theorem dX9_readsHouse_202 : decode cX9_readsHouse 202 = .ok (.iastore, 1) := by decide +kernel
theorem dX9_readsHouse_203 : decode cX9_readsHouse 203 = .ok (.aload_n 0, 1) := by decide +kernel
theorem dX9_readsHouse_204 : decode cX9_readsHouse 204 = .ok (.bipush 59, 2) := by decide +kernel
theorem dX9_readsHouse_206 : decode cX9_readsHouse 206 = .ok (.invokevirtual 114, 3) := by decide +kernel
theorem dX9_readsHouse_209 : decode cX9_readsHouse 209 = .ok (.ireturn, 1) := by decide +kernel
theorem dX9_isSort_0 : decode cX9_isSort 0 = .ok (.aload_n 0, 1) := by decide +kernel
theorem dX9_isSort_1 : decode cX9_isSort 1 = .ok (.getfield 92, 3) := by decide +kernel
theorem dX9_isSort_4 : decode cX9_isSort 4 = .ok (.aload_n 0, 1) := by decide +kernel
theorem dX9_isSort_5 : decode cX9_isSort 5 = .ok (.getfield 88, 3) := by decide +kernel
theorem dX9_isSort_8 : decode cX9_isSort 8 = .ok (.if_icmp .ge 22, 3) := by decide +kernel
theorem dX9_isSort_11 : decode cX9_isSort 11 = .ok (.aload_n 0, 1) := by decide +kernel
theorem dX9_isSort_12 : decode cX9_isSort 12 = .ok (.getfield 26, 3) := by decide +kernel
theorem dX9_isSort_15 : decode cX9_isSort 15 = .ok (.aload_n 0, 1) := by decide +kernel
theorem dX9_isSort_16 : decode cX9_isSort 16 = .ok (.getfield 92, 3) := by decide +kernel
theorem dX9_isSort_19 : decode cX9_isSort 19 = .ok (.iaload, 1) := by decide +kernel
theorem dX9_isSort_20 : decode cX9_isSort 20 = .ok (.invokestatic 121, 3) := by decide +kernel
theorem dX9_isSort_23 : decode cX9_isSort 23 = .ok (.ifCond .le 7, 3) := by decide +kernel
theorem dX9_isSort_26 : decode cX9_isSort 26 = .ok (.iconst 1, 1) := by decide +kernel
theorem dX9_isSort_27 : decode cX9_isSort 27 = .ok (.goto 4, 3) := by decide +kernel
theorem dX9_isSort_30 : decode cX9_isSort 30 = .ok (.iconst 0, 1) := by decide +kernel
theorem dX9_isSort_31 : decode cX9_isSort 31 = .ok (.ireturn, 1) := by decide +kernel
theorem dX9_reads_0 : decode cX9_reads 0 = .ok (.iconst 0, 1) := by decide +kernel
theorem dX9_reads_1 : decode cX9_reads 1 = .ok (.istore_n 1, 1) := by decide +kernel
theorem dX9_reads_2 : decode cX9_reads 2 = .ok (.iload_n 1, 1) := by decide +kernel
theorem dX9_reads_3 : decode cX9_reads 3 = .ok (.bipush 39, 2) := by decide +kernel
theorem dX9_reads_5 : decode cX9_reads 5 = .ok (.if_icmp .ge 20, 3) := by decide +kernel
theorem dX9_reads_8 : decode cX9_reads 8 = .ok (.aload_n 0, 1) := by decide +kernel
theorem dX9_reads_9 : decode cX9_reads 9 = .ok (.getfield 7, 3) := by decide +kernel
theorem dX9_reads_12 : decode cX9_reads 12 = .ok (.sipush 1053, 3) := by decide +kernel
theorem dX9_reads_15 : decode cX9_reads 15 = .ok (.iload_n 1, 1) := by decide +kernel
theorem dX9_reads_16 : decode cX9_reads 16 = .ok (.iadd, 1) := by decide +kernel
theorem dX9_reads_17 : decode cX9_reads 17 = .ok (.iconst 0, 1) := by decide +kernel
theorem dX9_reads_18 : decode cX9_reads 18 = .ok (.iastore, 1) := by decide +kernel
theorem dX9_reads_19 : decode cX9_reads 19 = .ok (.iinc 1 1, 3) := by decide +kernel
theorem dX9_reads_22 : decode cX9_reads 22 = .ok (.goto (-20), 3) := by decide +kernel
theorem dX9_reads_25 : decode cX9_reads 25 = .ok (.aload_n 0, 1) := by decide +kernel
theorem dX9_reads_26 : decode cX9_reads 26 = .ok (.iconst 0, 1) := by decide +kernel
theorem dX9_reads_27 : decode cX9_reads 27 = .ok (.putfield 92, 3) := by decide +kernel
theorem dX9_reads_30 : decode cX9_reads 30 = .ok (.aload_n 0, 1) := by decide +kernel
theorem dX9_reads_31 : decode cX9_reads 31 = .ok (.invokevirtual 129, 3) := by decide +kernel
theorem dX9_reads_34 : decode cX9_reads 34 = .ok (.istore_n 1, 1) := by decide +kernel
theorem dX9_reads_35 : decode cX9_reads 35 = .ok (.iload_n 1, 1) := by decide +kernel
theorem dX9_reads_36 : decode cX9_reads 36 = .ok (.ifCond .eq 18, 3) := by decide +kernel
theorem dX9_reads_39 : decode cX9_reads 39 = .ok (.aload_n 0, 1) := by decide +kernel
theorem dX9_reads_40 : decode cX9_reads 40 = .ok (.invokevirtual 133, 3) := by decide +kernel
theorem dX9_reads_43 : decode cX9_reads 43 = .ok (.ifCond .eq 11, 3) := by decide +kernel
theorem dX9_reads_46 : decode cX9_reads 46 = .ok (.aload_n 0, 1) := by decide +kernel
theorem dX9_reads_47 : decode cX9_reads 47 = .ok (.invokevirtual 136, 3) := by decide +kernel
theorem dX9_reads_50 : decode cX9_reads 50 = .ok (.istore_n 1, 1) := by decide +kernel
theorem dX9_reads_51 : decode cX9_reads 51 = .ok (.goto (-16), 3) := by decide +kernel
theorem dX9_reads_54 : decode cX9_reads 54 = .ok (.iload_n 1, 1) := by decide +kernel
theorem dX9_reads_55 : decode cX9_reads 55 = .ok (.ifCond .eq 26, 3) := by decide +kernel
theorem dX9_reads_58 : decode cX9_reads 58 = .ok (.aload_n 0, 1) := by decide +kernel
theorem dX9_reads_59 : decode cX9_reads 59 = .ok (.getfield 92, 3) := by decide +kernel
theorem dX9_reads_62 : decode cX9_reads 62 = .ok (.aload_n 0, 1) := by decide +kernel
theorem dX9_reads_63 : decode cX9_reads 63 = .ok (.getfield 88, 3) := by decide +kernel
theorem dX9_reads_66 : decode cX9_reads 66 = .ok (.if_icmp .eq 11, 3) := by decide +kernel
theorem dX9_reads_69 : decode cX9_reads 69 = .ok (.aload_n 0, 1) := by decide +kernel
theorem dX9_reads_70 : decode cX9_reads 70 = .ok (.iconst 1, 1) := by decide +kernel
theorem dX9_reads_71 : decode cX9_reads 71 = .ok (.invokevirtual 105, 3) := by decide +kernel
theorem dX9_reads_74 : decode cX9_reads 74 = .ok (.ifCond .eq 7, 3) := by decide +kernel
theorem dX9_reads_77 : decode cX9_reads 77 = .ok (.iconst 1, 1) := by decide +kernel
theorem dX9_reads_78 : decode cX9_reads 78 = .ok (.goto 4, 3) := by decide +kernel
theorem dX9_reads_81 : decode cX9_reads 81 = .ok (.iconst 0, 1) := by decide +kernel
theorem dX9_reads_82 : decode cX9_reads 82 = .ok (.ireturn, 1) := by decide +kernel
theorem dX9_hill_0 : decode cX9_hill 0 = .ok (.aload_n 0, 1) := by decide +kernel
theorem dX9_hill_1 : decode cX9_hill 1 = .ok (.invokevirtual 139, 3) := by decide +kernel
theorem dX9_hill_4 : decode cX9_hill 4 = .ok (.istore_n 1, 1) := by decide +kernel
theorem dX9_hill_5 : decode cX9_hill 5 = .ok (.aload_n 0, 1) := by decide +kernel
theorem dX9_hill_6 : decode cX9_hill 6 = .ok (.iconst 0, 1) := by decide +kernel
theorem dX9_hill_7 : decode cX9_hill 7 = .ok (.putfield 88, 3) := by decide +kernel
theorem dX9_hill_10 : decode cX9_hill 10 = .ok (.iload_n 1, 1) := by decide +kernel
theorem dX9_hill_11 : decode cX9_hill 11 = .ok (.ifCond .ne 19, 3) := by decide +kernel
theorem dX9_hill_14 : decode cX9_hill 14 = .ok (.aload_n 0, 1) := by decide +kernel
theorem dX9_hill_15 : decode cX9_hill 15 = .ok (.aload_n 0, 1) := by decide +kernel
theorem dX9_hill_16 : decode cX9_hill 16 = .ok (.getfield 99, 3) := by decide +kernel
theorem dX9_hill_19 : decode cX9_hill 19 = .ok (.putfield 142, 3) := by decide +kernel
theorem dX9_hill_22 : decode cX9_hill 22 = .ok (.ldc 145, 2) := by decide +kernel
theorem dX9_hill_24 : decode cX9_hill 24 = .ok (.aload_n 0, 1) := by decide +kernel
theorem dX9_hill_25 : decode cX9_hill 25 = .ok (.getfield 92, 3) := by decide +kernel
theorem dX9_hill_28 : decode cX9_hill 28 = .ok (.isub, 1) := by decide +kernel
theorem dX9_hill_29 : decode cX9_hill 29 = .ok (.ireturn, 1) := by decide +kernel
theorem dX9_hill_30 : decode cX9_hill 30 = .ok (.aload_n 0, 1) := by decide +kernel
theorem dX9_hill_31 : decode cX9_hill 31 = .ok (.getfield 7, 3) := by decide +kernel
theorem dX9_hill_34 : decode cX9_hill 34 = .ok (.sipush 1061, 3) := by decide +kernel
theorem dX9_hill_37 : decode cX9_hill 37 = .ok (.iconst 1, 1) := by decide +kernel
theorem dX9_hill_38 : decode cX9_hill 38 = .ok (.aload_n 0, 1) := by decide +kernel
theorem dX9_hill_39 : decode cX9_hill 39 = .ok (.getfield 7, 3) := by decide +kernel
theorem dX9_hill_42 : decode cX9_hill 42 = .ok (.sipush 1054, 3) := by decide +kernel
theorem dX9_hill_45 : decode cX9_hill 45 = .ok (.iaload, 1) := by decide +kernel
theorem dX9_hill_46 : decode cX9_hill 46 = .ok (.ishl, 1) := by decide +kernel
theorem dX9_hill_47 : decode cX9_hill 47 = .ok (.iconst 1, 1) := by decide +kernel
theorem dX9_hill_48 : decode cX9_hill 48 = .ok (.isub, 1) := by decide +kernel
theorem dX9_hill_49 : decode cX9_hill 49 = .ok (.iastore, 1) := by decide +kernel
theorem dX9_hill_50 : decode cX9_hill 50 = .ok (.aload_n 0, 1) := by decide +kernel
theorem dX9_hill_51 : decode cX9_hill 51 = .ok (.sipush 1053, 3) := by decide +kernel
theorem dX9_hill_54 : decode cX9_hill 54 = .ok (.iconst 0, 1) := by decide +kernel
theorem dX9_hill_55 : decode cX9_hill 55 = .ok (.invokevirtual 146, 3) := by decide +kernel
theorem dX9_hill_58 : decode cX9_hill 58 = .ok (.aload_n 0, 1) := by decide +kernel
theorem dX9_hill_59 : decode cX9_hill 59 = .ok (.iconst 1, 1) := by decide +kernel
theorem dX9_hill_60 : decode cX9_hill 60 = .ok (.putfield 150, 3) := by decide +kernel
theorem dX9_hill_63 : decode cX9_hill 63 = .ok (.aload_n 0, 1) := by decide +kernel
theorem dX9_hill_64 : decode cX9_hill 64 = .ok (.iconst 0, 1) := by decide +kernel
theorem dX9_hill_65 : decode cX9_hill 65 = .ok (.putfield 154, 3) := by decide +kernel
theorem dX9_hill_68 : decode cX9_hill 68 = .ok (.aload_n 0, 1) := by decide +kernel
theorem dX9_hill_69 : decode cX9_hill 69 = .ok (.getfield 7, 3) := by decide +kernel
theorem dX9_hill_72 : decode cX9_hill 72 = .ok (.iconst 1, 1) := by decide +kernel
theorem dX9_hill_73 : decode cX9_hill 73 = .ok (.iaload, 1) := by decide +kernel
theorem dX9_hill_74 : decode cX9_hill 74 = .ok (.ireturn, 1) := by decide +kernel
theorem dX9_fault_0 : decode cX9_fault 0 = .ok (.aload_n 0, 1) := by decide +kernel
theorem dX9_fault_1 : decode cX9_fault 1 = .ok (.getfield 142, 3) := by decide +kernel
theorem dX9_fault_4 : decode cX9_fault 4 = .ok (.ireturn, 1) := by decide +kernel
theorem dX9_copyTown_0 : decode cX9_copyTown 0 = .ok (.iconst 0, 1) := by decide +kernel
theorem dX9_copyTown_1 : decode cX9_copyTown 1 = .ok (.istore_n 3, 1) := by decide +kernel
theorem dX9_copyTown_2 : decode cX9_copyTown 2 = .ok (.iload_n 3, 1) := by decide +kernel
theorem dX9_copyTown_3 : decode cX9_copyTown 3 = .ok (.bipush 39, 2) := by decide +kernel
theorem dX9_copyTown_5 : decode cX9_copyTown 5 = .ok (.if_icmp .ge 25, 3) := by decide +kernel
theorem dX9_copyTown_8 : decode cX9_copyTown 8 = .ok (.aload_n 0, 1) := by decide +kernel
theorem dX9_copyTown_9 : decode cX9_copyTown 9 = .ok (.getfield 7, 3) := by decide +kernel
theorem dX9_copyTown_12 : decode cX9_copyTown 12 = .ok (.iload_n 2, 1) := by decide +kernel
theorem dX9_copyTown_13 : decode cX9_copyTown 13 = .ok (.iload_n 3, 1) := by decide +kernel
theorem dX9_copyTown_14 : decode cX9_copyTown 14 = .ok (.iadd, 1) := by decide +kernel
theorem dX9_copyTown_15 : decode cX9_copyTown 15 = .ok (.aload_n 0, 1) := by decide +kernel
theorem dX9_copyTown_16 : decode cX9_copyTown 16 = .ok (.getfield 7, 3) := by decide +kernel
theorem dX9_copyTown_19 : decode cX9_copyTown 19 = .ok (.iload_n 1, 1) := by decide +kernel
theorem dX9_copyTown_20 : decode cX9_copyTown 20 = .ok (.iload_n 3, 1) := by decide +kernel
theorem dX9_copyTown_21 : decode cX9_copyTown 21 = .ok (.iadd, 1) := by decide +kernel
theorem dX9_copyTown_22 : decode cX9_copyTown 22 = .ok (.iaload, 1) := by decide +kernel
theorem dX9_copyTown_23 : decode cX9_copyTown 23 = .ok (.iastore, 1) := by decide +kernel
theorem dX9_copyTown_24 : decode cX9_copyTown 24 = .ok (.iinc 3 1, 3) := by decide +kernel
theorem dX9_copyTown_27 : decode cX9_copyTown 27 = .ok (.goto (-25), 3) := by decide +kernel
theorem dX9_copyTown_30 : decode cX9_copyTown 30 = .ok (.return_, 1) := by decide +kernel
theorem dX9_keepPast_0 : decode cX9_keepPast 0 = .ok (.iconst 0, 1) := by decide +kernel
theorem dX9_keepPast_1 : decode cX9_keepPast 1 = .ok (.istore_n 1, 1) := by decide +kernel
theorem dX9_keepPast_2 : decode cX9_keepPast 2 = .ok (.iload_n 1, 1) := by decide +kernel
theorem dX9_keepPast_3 : decode cX9_keepPast 3 = .ok (.sipush 897, 3) := by decide +kernel
theorem dX9_keepPast_6 : decode cX9_keepPast 6 = .ok (.if_icmp .ge 36, 3) := by decide +kernel
theorem dX9_keepPast_9 : decode cX9_keepPast 9 = .ok (.aload_n 0, 1) := by decide +kernel
theorem dX9_keepPast_10 : decode cX9_keepPast 10 = .ok (.getfield 154, 3) := by decide +kernel
theorem dX9_keepPast_13 : decode cX9_keepPast 13 = .ok (.bipush 24, 2) := by decide +kernel
theorem dX9_keepPast_15 : decode cX9_keepPast 15 = .ok (.if_icmp .ne 27, 3) := by decide +kernel
theorem dX9_keepPast_18 : decode cX9_keepPast 18 = .ok (.aload_n 0, 1) := by decide +kernel
theorem dX9_keepPast_19 : decode cX9_keepPast 19 = .ok (.getfield 7, 3) := by decide +kernel
theorem dX9_keepPast_22 : decode cX9_keepPast 22 = .ok (.bipush 39, 2) := by decide +kernel
theorem dX9_keepPast_24 : decode cX9_keepPast 24 = .ok (.iload_n 1, 1) := by decide +kernel
theorem dX9_keepPast_25 : decode cX9_keepPast 25 = .ok (.iadd, 1) := by decide +kernel
theorem dX9_keepPast_26 : decode cX9_keepPast 26 = .ok (.aload_n 0, 1) := by decide +kernel
theorem dX9_keepPast_27 : decode cX9_keepPast 27 = .ok (.getfield 7, 3) := by decide +kernel
theorem dX9_keepPast_30 : decode cX9_keepPast 30 = .ok (.bipush 78, 2) := by decide +kernel
theorem dX9_keepPast_32 : decode cX9_keepPast 32 = .ok (.iload_n 1, 1) := by decide +kernel
theorem dX9_keepPast_33 : decode cX9_keepPast 33 = .ok (.iadd, 1) := by decide +kernel
theorem dX9_keepPast_34 : decode cX9_keepPast 34 = .ok (.iaload, 1) := by decide +kernel
theorem dX9_keepPast_35 : decode cX9_keepPast 35 = .ok (.iastore, 1) := by decide +kernel
theorem dX9_keepPast_36 : decode cX9_keepPast 36 = .ok (.iinc 1 1, 3) := by decide +kernel
theorem dX9_keepPast_39 : decode cX9_keepPast 39 = .ok (.goto (-37), 3) := by decide +kernel
theorem dX9_keepPast_42 : decode cX9_keepPast 42 = .ok (.aload_n 0, 1) := by decide +kernel
theorem dX9_keepPast_43 : decode cX9_keepPast 43 = .ok (.dup, 1) := by decide +kernel
theorem dX9_keepPast_44 : decode cX9_keepPast 44 = .ok (.getfield 154, 3) := by decide +kernel
theorem dX9_keepPast_47 : decode cX9_keepPast 47 = .ok (.aload_n 0, 1) := by decide +kernel
theorem dX9_keepPast_48 : decode cX9_keepPast 48 = .ok (.getfield 154, 3) := by decide +kernel
theorem dX9_keepPast_51 : decode cX9_keepPast 51 = .ok (.bipush 24, 2) := by decide +kernel
theorem dX9_keepPast_53 : decode cX9_keepPast 53 = .ok (.if_icmp .ne 7, 3) := by decide +kernel
theorem dX9_keepPast_56 : decode cX9_keepPast 56 = .ok (.iconst 1, 1) := by decide +kernel
theorem dX9_keepPast_57 : decode cX9_keepPast 57 = .ok (.goto 4, 3) := by decide +kernel
theorem dX9_keepPast_60 : decode cX9_keepPast 60 = .ok (.iconst 0, 1) := by decide +kernel
theorem dX9_keepPast_61 : decode cX9_keepPast 61 = .ok (.isub, 1) := by decide +kernel
theorem dX9_keepPast_62 : decode cX9_keepPast 62 = .ok (.putfield 154, 3) := by decide +kernel
theorem dX9_keepPast_65 : decode cX9_keepPast 65 = .ok (.aload_n 0, 1) := by decide +kernel
theorem dX9_keepPast_66 : decode cX9_keepPast 66 = .ok (.iconst 0, 1) := by decide +kernel
theorem dX9_keepPast_67 : decode cX9_keepPast 67 = .ok (.bipush 39, 2) := by decide +kernel
theorem dX9_keepPast_69 : decode cX9_keepPast 69 = .ok (.bipush 39, 2) := by decide +kernel
theorem dX9_keepPast_71 : decode cX9_keepPast 71 = .ok (.aload_n 0, 1) := by decide +kernel
theorem dX9_keepPast_72 : decode cX9_keepPast 72 = .ok (.getfield 154, 3) := by decide +kernel
theorem dX9_keepPast_75 : decode cX9_keepPast 75 = .ok (.imul, 1) := by decide +kernel
theorem dX9_keepPast_76 : decode cX9_keepPast 76 = .ok (.iadd, 1) := by decide +kernel
theorem dX9_keepPast_77 : decode cX9_keepPast 77 = .ok (.invokevirtual 146, 3) := by decide +kernel
theorem dX9_keepPast_80 : decode cX9_keepPast 80 = .ok (.aload_n 0, 1) := by decide +kernel
theorem dX9_keepPast_81 : decode cX9_keepPast 81 = .ok (.dup, 1) := by decide +kernel
theorem dX9_keepPast_82 : decode cX9_keepPast 82 = .ok (.getfield 154, 3) := by decide +kernel
theorem dX9_keepPast_85 : decode cX9_keepPast 85 = .ok (.iconst 1, 1) := by decide +kernel
theorem dX9_keepPast_86 : decode cX9_keepPast 86 = .ok (.iadd, 1) := by decide +kernel
theorem dX9_keepPast_87 : decode cX9_keepPast 87 = .ok (.putfield 154, 3) := by decide +kernel
theorem dX9_keepPast_90 : decode cX9_keepPast 90 = .ok (.return_, 1) := by decide +kernel
theorem dX9_undo_0 : decode cX9_undo 0 = .ok (.aload_n 0, 1) := by decide +kernel
theorem dX9_undo_1 : decode cX9_undo 1 = .ok (.getfield 154, 3) := by decide +kernel
theorem dX9_undo_4 : decode cX9_undo 4 = .ok (.ifCond .ne 6, 3) := by decide +kernel
theorem dX9_undo_7 : decode cX9_undo 7 = .ok (.ldc 157, 2) := by decide +kernel
theorem dX9_undo_9 : decode cX9_undo 9 = .ok (.ireturn, 1) := by decide +kernel
theorem dX9_undo_10 : decode cX9_undo 10 = .ok (.aload_n 0, 1) := by decide +kernel
theorem dX9_undo_11 : decode cX9_undo 11 = .ok (.dup, 1) := by decide +kernel
theorem dX9_undo_12 : decode cX9_undo 12 = .ok (.getfield 154, 3) := by decide +kernel
theorem dX9_undo_15 : decode cX9_undo 15 = .ok (.iconst 1, 1) := by decide +kernel
theorem dX9_undo_16 : decode cX9_undo 16 = .ok (.isub, 1) := by decide +kernel
theorem dX9_undo_17 : decode cX9_undo 17 = .ok (.putfield 154, 3) := by decide +kernel
theorem dX9_undo_20 : decode cX9_undo 20 = .ok (.aload_n 0, 1) := by decide +kernel
theorem dX9_undo_21 : decode cX9_undo 21 = .ok (.bipush 39, 2) := by decide +kernel
theorem dX9_undo_23 : decode cX9_undo 23 = .ok (.bipush 39, 2) := by decide +kernel
theorem dX9_undo_25 : decode cX9_undo 25 = .ok (.aload_n 0, 1) := by decide +kernel
theorem dX9_undo_26 : decode cX9_undo 26 = .ok (.getfield 154, 3) := by decide +kernel
theorem dX9_undo_29 : decode cX9_undo 29 = .ok (.imul, 1) := by decide +kernel
theorem dX9_undo_30 : decode cX9_undo 30 = .ok (.iadd, 1) := by decide +kernel
theorem dX9_undo_31 : decode cX9_undo 31 = .ok (.iconst 0, 1) := by decide +kernel
theorem dX9_undo_32 : decode cX9_undo 32 = .ok (.invokevirtual 146, 3) := by decide +kernel
theorem dX9_undo_35 : decode cX9_undo 35 = .ok (.aload_n 0, 1) := by decide +kernel
theorem dX9_undo_36 : decode cX9_undo 36 = .ok (.getfield 154, 3) := by decide +kernel
theorem dX9_undo_39 : decode cX9_undo 39 = .ok (.ireturn, 1) := by decide +kernel
theorem dX9_isHouse_0 : decode cX9_isHouse 0 = .ok (.iload_n 1, 1) := by decide +kernel
theorem dX9_isHouse_1 : decode cX9_isHouse 1 = .ok (.i2l, 1) := by decide +kernel
theorem dX9_isHouse_2 : decode cX9_isHouse 2 = .ok (.lconst 0, 1) := by decide +kernel
theorem dX9_isHouse_3 : decode cX9_isHouse 3 = .ok (.aload_n 0, 1) := by decide +kernel
theorem dX9_isHouse_4 : decode cX9_isHouse 4 = .ok (.getfield 7, 3) := by decide +kernel
theorem dX9_isHouse_7 : decode cX9_isHouse 7 = .ok (.iconst 1, 1) := by decide +kernel
theorem dX9_isHouse_8 : decode cX9_isHouse 8 = .ok (.iaload, 1) := by decide +kernel
theorem dX9_isHouse_9 : decode cX9_isHouse 9 = .ok (.iconst 1, 1) := by decide +kernel
theorem dX9_isHouse_10 : decode cX9_isHouse 10 = .ok (.isub, 1) := by decide +kernel
theorem dX9_isHouse_11 : decode cX9_isHouse 11 = .ok (.i2l, 1) := by decide +kernel
theorem dX9_isHouse_12 : decode cX9_isHouse 12 = .ok (.invokestatic 60, 3) := by decide +kernel
theorem dX9_isHouse_15 : decode cX9_isHouse 15 = .ok (.ireturn, 1) := by decide +kernel
theorem dX9_houseAt_0 : decode cX9_houseAt 0 = .ok (.iconst 0, 1) := by decide +kernel
theorem dX9_houseAt_1 : decode cX9_houseAt 1 = .ok (.istore 4, 2) := by decide +kernel
theorem dX9_houseAt_3 : decode cX9_houseAt 3 = .ok (.iload 4, 2) := by decide +kernel
theorem dX9_houseAt_5 : decode cX9_houseAt 5 = .ok (.aload_n 0, 1) := by decide +kernel
theorem dX9_houseAt_6 : decode cX9_houseAt 6 = .ok (.getfield 7, 3) := by decide +kernel
theorem dX9_houseAt_9 : decode cX9_houseAt 9 = .ok (.iload_n 1, 1) := by decide +kernel
theorem dX9_houseAt_10 : decode cX9_houseAt 10 = .ok (.iconst 1, 1) := by decide +kernel
theorem dX9_houseAt_11 : decode cX9_houseAt 11 = .ok (.iadd, 1) := by decide +kernel
theorem dX9_houseAt_12 : decode cX9_houseAt 12 = .ok (.iaload, 1) := by decide +kernel
theorem dX9_houseAt_13 : decode cX9_houseAt 13 = .ok (.if_icmp .ge 44, 3) := by decide +kernel
theorem dX9_houseAt_16 : decode cX9_houseAt 16 = .ok (.aload_n 0, 1) := by decide +kernel
theorem dX9_houseAt_17 : decode cX9_houseAt 17 = .ok (.getfield 7, 3) := by decide +kernel
theorem dX9_houseAt_20 : decode cX9_houseAt 20 = .ok (.iload_n 1, 1) := by decide +kernel
theorem dX9_houseAt_21 : decode cX9_houseAt 21 = .ok (.bipush 15, 2) := by decide +kernel
theorem dX9_houseAt_23 : decode cX9_houseAt 23 = .ok (.iadd, 1) := by decide +kernel
theorem dX9_houseAt_24 : decode cX9_houseAt 24 = .ok (.iload 4, 2) := by decide +kernel
theorem dX9_houseAt_26 : decode cX9_houseAt 26 = .ok (.iadd, 1) := by decide +kernel
theorem dX9_houseAt_27 : decode cX9_houseAt 27 = .ok (.iaload, 1) := by decide +kernel
theorem dX9_houseAt_28 : decode cX9_houseAt 28 = .ok (.iload_n 2, 1) := by decide +kernel
theorem dX9_houseAt_29 : decode cX9_houseAt 29 = .ok (.if_icmp .ne 22, 3) := by decide +kernel
theorem dX9_houseAt_32 : decode cX9_houseAt 32 = .ok (.aload_n 0, 1) := by decide +kernel
theorem dX9_houseAt_33 : decode cX9_houseAt 33 = .ok (.getfield 7, 3) := by decide +kernel
theorem dX9_houseAt_36 : decode cX9_houseAt 36 = .ok (.iload_n 1, 1) := by decide +kernel
theorem dX9_houseAt_37 : decode cX9_houseAt 37 = .ok (.bipush 21, 2) := by decide +kernel
theorem dX9_houseAt_39 : decode cX9_houseAt 39 = .ok (.iadd, 1) := by decide +kernel
theorem dX9_houseAt_40 : decode cX9_houseAt 40 = .ok (.iload 4, 2) := by decide +kernel
theorem dX9_houseAt_42 : decode cX9_houseAt 42 = .ok (.iadd, 1) := by decide +kernel
theorem dX9_houseAt_43 : decode cX9_houseAt 43 = .ok (.iaload, 1) := by decide +kernel
theorem dX9_houseAt_44 : decode cX9_houseAt 44 = .ok (.iload_n 3, 1) := by decide +kernel
theorem dX9_houseAt_45 : decode cX9_houseAt 45 = .ok (.if_icmp .ne 6, 3) := by decide +kernel
theorem dX9_houseAt_48 : decode cX9_houseAt 48 = .ok (.iload 4, 2) := by decide +kernel
theorem dX9_houseAt_50 : decode cX9_houseAt 50 = .ok (.ireturn, 1) := by decide +kernel
theorem dX9_houseAt_51 : decode cX9_houseAt 51 = .ok (.iinc 4 1, 3) := by decide +kernel
theorem dX9_houseAt_54 : decode cX9_houseAt 54 = .ok (.goto (-51), 3) := by decide +kernel
theorem dX9_houseAt_57 : decode cX9_houseAt 57 = .ok (.ldc 128, 2) := by decide +kernel
theorem dX9_houseAt_59 : decode cX9_houseAt 59 = .ok (.ireturn, 1) := by decide +kernel
theorem dX9_kept_0 : decode cX9_kept 0 = .ok (.iload_n 0, 1) := by decide +kernel
theorem dX9_kept_1 : decode cX9_kept 1 = .ok (.ifCond .ge 7, 3) := by decide +kernel
theorem dX9_kept_4 : decode cX9_kept 4 = .ok (.iconst 0, 1) := by decide +kernel
theorem dX9_kept_5 : decode cX9_kept 5 = .ok (.goto 15, 3) := by decide +kernel
theorem dX9_kept_8 : decode cX9_kept 8 = .ok (.iload_n 0, 1) := by decide +kernel
theorem dX9_kept_9 : decode cX9_kept 9 = .ok (.bipush 6, 2) := by decide +kernel
theorem dX9_kept_11 : decode cX9_kept 11 = .ok (.if_icmp .le 8, 3) := by decide +kernel
theorem dX9_kept_14 : decode cX9_kept 14 = .ok (.bipush 6, 2) := by decide +kernel
theorem dX9_kept_16 : decode cX9_kept 16 = .ok (.goto 4, 3) := by decide +kernel
theorem dX9_kept_19 : decode cX9_kept 19 = .ok (.iload_n 0, 1) := by decide +kernel
theorem dX9_kept_20 : decode cX9_kept 20 = .ok (.ireturn, 1) := by decide +kernel
theorem dX9_turns_0 : decode cX9_turns 0 = .ok (.aload_n 0, 1) := by decide +kernel
theorem dX9_turns_1 : decode cX9_turns 1 = .ok (.getfield 7, 3) := by decide +kernel
theorem dX9_turns_4 : decode cX9_turns 4 = .ok (.iload_n 1, 1) := by decide +kernel
theorem dX9_turns_5 : decode cX9_turns 5 = .ok (.bipush 9, 2) := by decide +kernel
theorem dX9_turns_7 : decode cX9_turns 7 = .ok (.iadd, 1) := by decide +kernel
theorem dX9_turns_8 : decode cX9_turns 8 = .ok (.iload_n 2, 1) := by decide +kernel
theorem dX9_turns_9 : decode cX9_turns 9 = .ok (.iadd, 1) := by decide +kernel
theorem dX9_turns_10 : decode cX9_turns 10 = .ok (.iaload, 1) := by decide +kernel
theorem dX9_turns_11 : decode cX9_turns 11 = .ok (.istore 4, 2) := by decide +kernel
theorem dX9_turns_13 : decode cX9_turns 13 = .ok (.iload 4, 2) := by decide +kernel
theorem dX9_turns_15 : decode cX9_turns 15 = .ok (.iconst 4, 1) := by decide +kernel
theorem dX9_turns_16 : decode cX9_turns 16 = .ok (.if_icmp .eq 9, 3) := by decide +kernel
theorem dX9_turns_19 : decode cX9_turns 19 = .ok (.iload 4, 2) := by decide +kernel
theorem dX9_turns_21 : decode cX9_turns 21 = .ok (.iconst 5, 1) := by decide +kernel
theorem dX9_turns_22 : decode cX9_turns 22 = .ok (.if_icmp .ne 15, 3) := by decide +kernel
theorem dX9_turns_25 : decode cX9_turns 25 = .ok (.iload 4, 2) := by decide +kernel
theorem dX9_turns_27 : decode cX9_turns 27 = .ok (.iconst 4, 1) := by decide +kernel
theorem dX9_turns_28 : decode cX9_turns 28 = .ok (.if_icmp .ne 7, 3) := by decide +kernel
theorem dX9_turns_31 : decode cX9_turns 31 = .ok (.iconst (-1), 1) := by decide +kernel
theorem dX9_turns_32 : decode cX9_turns 32 = .ok (.goto 4, 3) := by decide +kernel
theorem dX9_turns_35 : decode cX9_turns 35 = .ok (.iconst 1, 1) := by decide +kernel
theorem dX9_turns_36 : decode cX9_turns 36 = .ok (.ireturn, 1) := by decide +kernel
theorem dX9_turns_37 : decode cX9_turns 37 = .ok (.iload 4, 2) := by decide +kernel
theorem dX9_turns_39 : decode cX9_turns 39 = .ok (.iconst 2, 1) := by decide +kernel
theorem dX9_turns_40 : decode cX9_turns 40 = .ok (.if_icmp .ne 23, 3) := by decide +kernel
theorem dX9_turns_43 : decode cX9_turns 43 = .ok (.aload_n 0, 1) := by decide +kernel
theorem dX9_turns_44 : decode cX9_turns 44 = .ok (.getfield 7, 3) := by decide +kernel
theorem dX9_turns_47 : decode cX9_turns 47 = .ok (.iload_n 1, 1) := by decide +kernel
theorem dX9_turns_48 : decode cX9_turns 48 = .ok (.bipush 8, 2) := by decide +kernel
theorem dX9_turns_50 : decode cX9_turns 50 = .ok (.iadd, 1) := by decide +kernel
theorem dX9_turns_51 : decode cX9_turns 51 = .ok (.iaload, 1) := by decide +kernel
theorem dX9_turns_52 : decode cX9_turns 52 = .ok (.iload_n 2, 1) := by decide +kernel
theorem dX9_turns_53 : decode cX9_turns 53 = .ok (.invokestatic 158, 3) := by decide +kernel
theorem dX9_turns_56 : decode cX9_turns 56 = .ok (.ifCond .eq 7, 3) := by decide +kernel
theorem dX9_turns_59 : decode cX9_turns 59 = .ok (.iconst 1, 1) := by decide +kernel
theorem dX9_turns_60 : decode cX9_turns 60 = .ok (.goto 4, 3) := by decide +kernel
theorem dX9_turns_63 : decode cX9_turns 63 = .ok (.iconst 0, 1) := by decide +kernel
theorem dX9_turns_64 : decode cX9_turns 64 = .ok (.istore 5, 2) := by decide +kernel
theorem dX9_turns_66 : decode cX9_turns 66 = .ok (.iload 5, 2) := by decide +kernel
theorem dX9_turns_68 : decode cX9_turns 68 = .ok (.ifCond .eq 7, 3) := by decide +kernel
theorem dX9_turns_71 : decode cX9_turns 71 = .ok (.iconst 0, 1) := by decide +kernel
theorem dX9_turns_72 : decode cX9_turns 72 = .ok (.goto 14, 3) := by decide +kernel
theorem dX9_turns_75 : decode cX9_turns 75 = .ok (.iload_n 3, 1) := by decide +kernel
theorem dX9_turns_76 : decode cX9_turns 76 = .ok (.iconst 2, 1) := by decide +kernel
theorem dX9_turns_77 : decode cX9_turns 77 = .ok (.irem, 1) := by decide +kernel
theorem dX9_turns_78 : decode cX9_turns 78 = .ok (.ifCond .ne 7, 3) := by decide +kernel
theorem dX9_turns_81 : decode cX9_turns 81 = .ok (.iconst 1, 1) := by decide +kernel
theorem dX9_turns_82 : decode cX9_turns 82 = .ok (.goto 4, 3) := by decide +kernel
theorem dX9_turns_85 : decode cX9_turns 85 = .ok (.iconst (-1), 1) := by decide +kernel
theorem dX9_turns_86 : decode cX9_turns 86 = .ok (.ireturn, 1) := by decide +kernel
theorem dX9_slows_0 : decode cX9_slows 0 = .ok (.aload_n 0, 1) := by decide +kernel
theorem dX9_slows_1 : decode cX9_slows 1 = .ok (.getfield 7, 3) := by decide +kernel
theorem dX9_slows_4 : decode cX9_slows 4 = .ok (.iload_n 1, 1) := by decide +kernel
theorem dX9_slows_5 : decode cX9_slows 5 = .ok (.bipush 9, 2) := by decide +kernel
theorem dX9_slows_7 : decode cX9_slows 7 = .ok (.iadd, 1) := by decide +kernel
theorem dX9_slows_8 : decode cX9_slows 8 = .ok (.iload_n 2, 1) := by decide +kernel
theorem dX9_slows_9 : decode cX9_slows 9 = .ok (.iadd, 1) := by decide +kernel
theorem dX9_slows_10 : decode cX9_slows 10 = .ok (.iaload, 1) := by decide +kernel
theorem dX9_slows_11 : decode cX9_slows 11 = .ok (.istore_n 3, 1) := by decide +kernel
theorem dX9_slows_12 : decode cX9_slows 12 = .ok (.iload_n 3, 1) := by decide +kernel
theorem dX9_slows_13 : decode cX9_slows 13 = .ok (.iconst 1, 1) := by decide +kernel
theorem dX9_slows_14 : decode cX9_slows 14 = .ok (.if_icmp .eq 24, 3) := by decide +kernel
theorem dX9_slows_17 : decode cX9_slows 17 = .ok (.iload_n 3, 1) := by decide +kernel
theorem dX9_slows_18 : decode cX9_slows 18 = .ok (.iconst 2, 1) := by decide +kernel
theorem dX9_slows_19 : decode cX9_slows 19 = .ok (.if_icmp .ne 23, 3) := by decide +kernel
theorem dX9_slows_22 : decode cX9_slows 22 = .ok (.aload_n 0, 1) := by decide +kernel
theorem dX9_slows_23 : decode cX9_slows 23 = .ok (.getfield 7, 3) := by decide +kernel
theorem dX9_slows_26 : decode cX9_slows 26 = .ok (.iload_n 1, 1) := by decide +kernel
theorem dX9_slows_27 : decode cX9_slows 27 = .ok (.bipush 8, 2) := by decide +kernel
theorem dX9_slows_29 : decode cX9_slows 29 = .ok (.iadd, 1) := by decide +kernel
theorem dX9_slows_30 : decode cX9_slows 30 = .ok (.iaload, 1) := by decide +kernel
theorem dX9_slows_31 : decode cX9_slows 31 = .ok (.iload_n 2, 1) := by decide +kernel
theorem dX9_slows_32 : decode cX9_slows 32 = .ok (.invokestatic 158, 3) := by decide +kernel
theorem dX9_slows_35 : decode cX9_slows 35 = .ok (.ifCond .ne 7, 3) := by decide +kernel
theorem dX9_slows_38 : decode cX9_slows 38 = .ok (.iconst 2, 1) := by decide +kernel
theorem dX9_slows_39 : decode cX9_slows 39 = .ok (.goto 4, 3) := by decide +kernel
theorem dX9_slows_42 : decode cX9_slows 42 = .ok (.iconst 1, 1) := by decide +kernel
theorem dX9_slows_43 : decode cX9_slows 43 = .ok (.ireturn, 1) := by decide +kernel
theorem dX9_holdsIt_0 : decode cX9_holdsIt 0 = .ok (.aload_n 0, 1) := by decide +kernel
theorem dX9_holdsIt_1 : decode cX9_holdsIt 1 = .ok (.getfield 7, 3) := by decide +kernel
theorem dX9_holdsIt_4 : decode cX9_holdsIt 4 = .ok (.iload_n 1, 1) := by decide +kernel
theorem dX9_holdsIt_5 : decode cX9_holdsIt 5 = .ok (.bipush 9, 2) := by decide +kernel
theorem dX9_holdsIt_7 : decode cX9_holdsIt 7 = .ok (.iadd, 1) := by decide +kernel
theorem dX9_holdsIt_8 : decode cX9_holdsIt 8 = .ok (.iload_n 2, 1) := by decide +kernel
theorem dX9_holdsIt_9 : decode cX9_holdsIt 9 = .ok (.iadd, 1) := by decide +kernel
theorem dX9_holdsIt_10 : decode cX9_holdsIt 10 = .ok (.iaload, 1) := by decide +kernel
theorem dX9_holdsIt_11 : decode cX9_holdsIt 11 = .ok (.istore_n 3, 1) := by decide +kernel
theorem dX9_holdsIt_12 : decode cX9_holdsIt 12 = .ok (.iload_n 3, 1) := by decide +kernel
theorem dX9_holdsIt_13 : decode cX9_holdsIt 13 = .ok (.iconst 3, 1) := by decide +kernel
theorem dX9_holdsIt_14 : decode cX9_holdsIt 14 = .ok (.if_icmp .eq 24, 3) := by decide +kernel
theorem dX9_holdsIt_17 : decode cX9_holdsIt 17 = .ok (.iload_n 3, 1) := by decide +kernel
theorem dX9_holdsIt_18 : decode cX9_holdsIt 18 = .ok (.iconst 1, 1) := by decide +kernel
theorem dX9_holdsIt_19 : decode cX9_holdsIt 19 = .ok (.if_icmp .ne 23, 3) := by decide +kernel
theorem dX9_holdsIt_22 : decode cX9_holdsIt 22 = .ok (.aload_n 0, 1) := by decide +kernel
theorem dX9_holdsIt_23 : decode cX9_holdsIt 23 = .ok (.getfield 7, 3) := by decide +kernel
theorem dX9_holdsIt_26 : decode cX9_holdsIt 26 = .ok (.iload_n 1, 1) := by decide +kernel
theorem dX9_holdsIt_27 : decode cX9_holdsIt 27 = .ok (.bipush 8, 2) := by decide +kernel
theorem dX9_holdsIt_29 : decode cX9_holdsIt 29 = .ok (.iadd, 1) := by decide +kernel
theorem dX9_holdsIt_30 : decode cX9_holdsIt 30 = .ok (.iaload, 1) := by decide +kernel
theorem dX9_holdsIt_31 : decode cX9_holdsIt 31 = .ok (.iload_n 2, 1) := by decide +kernel
theorem dX9_holdsIt_32 : decode cX9_holdsIt 32 = .ok (.invokestatic 158, 3) := by decide +kernel
theorem dX9_holdsIt_35 : decode cX9_holdsIt 35 = .ok (.ifCond .eq 7, 3) := by decide +kernel
theorem dX9_holdsIt_38 : decode cX9_holdsIt 38 = .ok (.iconst 1, 1) := by decide +kernel
theorem dX9_holdsIt_39 : decode cX9_holdsIt 39 = .ok (.goto 4, 3) := by decide +kernel
theorem dX9_holdsIt_42 : decode cX9_holdsIt 42 = .ok (.iconst 0, 1) := by decide +kernel
theorem dX9_holdsIt_43 : decode cX9_holdsIt 43 = .ok (.ireturn, 1) := by decide +kernel
theorem dX9_goes_0 : decode cX9_goes 0 = .ok (.iconst 0, 1) := by decide +kernel
theorem dX9_goes_1 : decode cX9_goes 1 = .ok (.istore_n 3, 1) := by decide +kernel
theorem dX9_goes_2 : decode cX9_goes 2 = .ok (.iload_n 3, 1) := by decide +kernel
theorem dX9_goes_3 : decode cX9_goes 3 = .ok (.bipush 10, 2) := by decide +kernel
theorem dX9_goes_5 : decode cX9_goes 5 = .ok (.if_icmp .ge 16, 3) := by decide +kernel
theorem dX9_goes_8 : decode cX9_goes 8 = .ok (.aload_n 0, 1) := by decide +kernel
theorem dX9_goes_9 : decode cX9_goes 9 = .ok (.getfield 41, 3) := by decide +kernel
theorem dX9_goes_12 : decode cX9_goes 12 = .ok (.iload_n 3, 1) := by decide +kernel
theorem dX9_goes_13 : decode cX9_goes 13 = .ok (.iconst (-1), 1) := by decide +kernel
theorem dX9_goes_14 : decode cX9_goes 14 = .ok (.iastore, 1) := by decide +kernel
theorem dX9_goes_15 : decode cX9_goes 15 = .ok (.iinc 3 1, 3) := by decide +kernel
theorem dX9_goes_18 : decode cX9_goes 18 = .ok (.goto (-16), 3) := by decide +kernel
theorem dX9_goes_21 : decode cX9_goes 21 = .ok (.iload_n 2, 1) := by decide +kernel
theorem dX9_goes_22 : decode cX9_goes 22 = .ok (.istore_n 3, 1) := by decide +kernel
theorem dX9_goes_23 : decode cX9_goes 23 = .ok (.aload_n 0, 1) := by decide +kernel
theorem dX9_goes_24 : decode cX9_goes 24 = .ok (.aload_n 0, 1) := by decide +kernel
theorem dX9_goes_25 : decode cX9_goes 25 = .ok (.getfield 7, 3) := by decide +kernel
theorem dX9_goes_28 : decode cX9_goes 28 = .ok (.iload_n 1, 1) := by decide +kernel
theorem dX9_goes_29 : decode cX9_goes 29 = .ok (.iconst 4, 1) := by decide +kernel
theorem dX9_goes_30 : decode cX9_goes 30 = .ok (.iadd, 1) := by decide +kernel
theorem dX9_goes_31 : decode cX9_goes 31 = .ok (.iaload, 1) := by decide +kernel
theorem dX9_goes_32 : decode cX9_goes 32 = .ok (.putfield 161, 3) := by decide +kernel
theorem dX9_goes_35 : decode cX9_goes 35 = .ok (.aload_n 0, 1) := by decide +kernel
theorem dX9_goes_36 : decode cX9_goes 36 = .ok (.getfield 41, 3) := by decide +kernel
theorem dX9_goes_39 : decode cX9_goes 39 = .ok (.iconst 0, 1) := by decide +kernel
theorem dX9_goes_40 : decode cX9_goes 40 = .ok (.iload_n 2, 1) := by decide +kernel
theorem dX9_goes_41 : decode cX9_goes 41 = .ok (.iastore, 1) := by decide +kernel
theorem dX9_goes_42 : decode cX9_goes 42 = .ok (.iconst 1, 1) := by decide +kernel
theorem dX9_goes_43 : decode cX9_goes 43 = .ok (.istore 4, 2) := by decide +kernel
theorem dX9_goes_45 : decode cX9_goes 45 = .ok (.iload 4, 2) := by decide +kernel
theorem dX9_goes_47 : decode cX9_goes 47 = .ok (.aload_n 0, 1) := by decide +kernel
theorem dX9_goes_48 : decode cX9_goes 48 = .ok (.getfield 7, 3) := by decide +kernel
theorem dX9_goes_51 : decode cX9_goes 51 = .ok (.iload_n 1, 1) := by decide +kernel
theorem dX9_goes_52 : decode cX9_goes 52 = .ok (.iconst 0, 1) := by decide +kernel
theorem dX9_goes_53 : decode cX9_goes 53 = .ok (.iadd, 1) := by decide +kernel
theorem dX9_goes_54 : decode cX9_goes 54 = .ok (.iaload, 1) := by decide +kernel
theorem dX9_goes_55 : decode cX9_goes 55 = .ok (.if_icmp .gt 137, 3) := by decide +kernel
theorem dX9_goes_58 : decode cX9_goes 58 = .ok (.iload 4, 2) := by decide +kernel
theorem dX9_goes_60 : decode cX9_goes 60 = .ok (.aload_n 0, 1) := by decide +kernel
theorem dX9_goes_61 : decode cX9_goes 61 = .ok (.getfield 7, 3) := by decide +kernel
theorem dX9_goes_64 : decode cX9_goes 64 = .ok (.iload_n 1, 1) := by decide +kernel
theorem dX9_goes_65 : decode cX9_goes 65 = .ok (.bipush 6, 2) := by decide +kernel
theorem dX9_goes_67 : decode cX9_goes 67 = .ok (.iadd, 1) := by decide +kernel
theorem dX9_goes_68 : decode cX9_goes 68 = .ok (.iaload, 1) := by decide +kernel
theorem dX9_goes_69 : decode cX9_goes 69 = .ok (.irem, 1) := by decide +kernel
theorem dX9_goes_70 : decode cX9_goes 70 = .ok (.ifCond .ne 21, 3) := by decide +kernel
theorem dX9_goes_73 : decode cX9_goes 73 = .ok (.iload_n 3, 1) := by decide +kernel
theorem dX9_goes_74 : decode cX9_goes 74 = .ok (.aload_n 0, 1) := by decide +kernel
theorem dX9_goes_75 : decode cX9_goes 75 = .ok (.getfield 7, 3) := by decide +kernel
theorem dX9_goes_78 : decode cX9_goes 78 = .ok (.iload_n 1, 1) := by decide +kernel
theorem dX9_goes_79 : decode cX9_goes 79 = .ok (.iconst 5, 1) := by decide +kernel
theorem dX9_goes_80 : decode cX9_goes 80 = .ok (.iadd, 1) := by decide +kernel
theorem dX9_goes_81 : decode cX9_goes 81 = .ok (.iaload, 1) := by decide +kernel
theorem dX9_goes_82 : decode cX9_goes 82 = .ok (.iadd, 1) := by decide +kernel
theorem dX9_goes_83 : decode cX9_goes 83 = .ok (.iconst 1, 1) := by decide +kernel
theorem dX9_goes_84 : decode cX9_goes 84 = .ok (.isub, 1) := by decide +kernel
theorem dX9_goes_85 : decode cX9_goes 85 = .ok (.invokestatic 164, 3) := by decide +kernel
theorem dX9_goes_88 : decode cX9_goes 88 = .ok (.goto 4, 3) := by decide +kernel
theorem dX9_goes_91 : decode cX9_goes 91 = .ok (.iload_n 3, 1) := by decide +kernel
theorem dX9_goes_92 : decode cX9_goes 92 = .ok (.istore_n 3, 1) := by decide +kernel
theorem dX9_goes_93 : decode cX9_goes 93 = .ok (.aload_n 0, 1) := by decide +kernel
theorem dX9_goes_94 : decode cX9_goes 94 = .ok (.getfield 41, 3) := by decide +kernel
theorem dX9_goes_97 : decode cX9_goes 97 = .ok (.iload 4, 2) := by decide +kernel
theorem dX9_goes_99 : decode cX9_goes 99 = .ok (.iload_n 3, 1) := by decide +kernel
theorem dX9_goes_100 : decode cX9_goes 100 = .ok (.iastore, 1) := by decide +kernel
theorem dX9_goes_101 : decode cX9_goes 101 = .ok (.aload_n 0, 1) := by decide +kernel
theorem dX9_goes_102 : decode cX9_goes 102 = .ok (.iload_n 1, 1) := by decide +kernel
theorem dX9_goes_103 : decode cX9_goes 103 = .ok (.iload 4, 2) := by decide +kernel
theorem dX9_goes_105 : decode cX9_goes 105 = .ok (.iload_n 3, 1) := by decide +kernel
theorem dX9_goes_106 : decode cX9_goes 106 = .ok (.invokevirtual 124, 3) := by decide +kernel
theorem dX9_goes_109 : decode cX9_goes 109 = .ok (.istore 5, 2) := by decide +kernel
theorem dX9_goes_111 : decode cX9_goes 111 = .ok (.iload 5, 2) := by decide +kernel
theorem dX9_goes_113 : decode cX9_goes 113 = .ok (.ldc 128, 2) := by decide +kernel
theorem dX9_goes_115 : decode cX9_goes 115 = .ok (.if_icmp .eq 71, 3) := by decide +kernel
theorem dX9_goes_118 : decode cX9_goes 118 = .ok (.aload_n 0, 1) := by decide +kernel
theorem dX9_goes_119 : decode cX9_goes 119 = .ok (.iload_n 1, 1) := by decide +kernel
theorem dX9_goes_120 : decode cX9_goes 120 = .ok (.iload 5, 2) := by decide +kernel
theorem dX9_goes_122 : decode cX9_goes 122 = .ok (.invokevirtual 167, 3) := by decide +kernel
theorem dX9_goes_125 : decode cX9_goes 125 = .ok (.ifCond .eq 6, 3) := by decide +kernel
theorem dX9_goes_128 : decode cX9_goes 128 = .ok (.iload 5, 2) := by decide +kernel
theorem dX9_goes_130 : decode cX9_goes 130 = .ok (.ireturn, 1) := by decide +kernel
theorem dX9_goes_131 : decode cX9_goes 131 = .ok (.aload_n 0, 1) := by decide +kernel
theorem dX9_goes_132 : decode cX9_goes 132 = .ok (.dup, 1) := by decide +kernel
theorem dX9_goes_133 : decode cX9_goes 133 = .ok (.getfield 161, 3) := by decide +kernel
theorem dX9_goes_136 : decode cX9_goes 136 = .ok (.aload_n 0, 1) := by decide +kernel
theorem dX9_goes_137 : decode cX9_goes 137 = .ok (.iload_n 1, 1) := by decide +kernel
theorem dX9_goes_138 : decode cX9_goes 138 = .ok (.iload 5, 2) := by decide +kernel
theorem dX9_goes_140 : decode cX9_goes 140 = .ok (.invokevirtual 170, 3) := by decide +kernel
theorem dX9_goes_143 : decode cX9_goes 143 = .ok (.isub, 1) := by decide +kernel
theorem dX9_goes_144 : decode cX9_goes 144 = .ok (.putfield 161, 3) := by decide +kernel
theorem dX9_goes_147 : decode cX9_goes 147 = .ok (.iload_n 3, 1) := by decide +kernel
theorem dX9_goes_148 : decode cX9_goes 148 = .ok (.aload_n 0, 1) := by decide +kernel
theorem dX9_goes_149 : decode cX9_goes 149 = .ok (.iload_n 1, 1) := by decide +kernel
theorem dX9_goes_150 : decode cX9_goes 150 = .ok (.iload 5, 2) := by decide +kernel
theorem dX9_goes_152 : decode cX9_goes 152 = .ok (.iload 4, 2) := by decide +kernel
theorem dX9_goes_154 : decode cX9_goes 154 = .ok (.invokevirtual 173, 3) := by decide +kernel
theorem dX9_goes_157 : decode cX9_goes 157 = .ok (.iadd, 1) := by decide +kernel
theorem dX9_goes_158 : decode cX9_goes 158 = .ok (.invokestatic 164, 3) := by decide +kernel
theorem dX9_goes_161 : decode cX9_goes 161 = .ok (.istore_n 3, 1) := by decide +kernel
theorem dX9_goes_162 : decode cX9_goes 162 = .ok (.aload_n 0, 1) := by decide +kernel
theorem dX9_goes_163 : decode cX9_goes 163 = .ok (.getfield 41, 3) := by decide +kernel
theorem dX9_goes_166 : decode cX9_goes 166 = .ok (.iload 4, 2) := by decide +kernel
theorem dX9_goes_168 : decode cX9_goes 168 = .ok (.iload_n 3, 1) := by decide +kernel
theorem dX9_goes_169 : decode cX9_goes 169 = .ok (.iastore, 1) := by decide +kernel
theorem dX9_goes_170 : decode cX9_goes 170 = .ok (.aload_n 0, 1) := by decide +kernel
theorem dX9_goes_171 : decode cX9_goes 171 = .ok (.getfield 161, 3) := by decide +kernel
theorem dX9_goes_174 : decode cX9_goes 174 = .ok (.iconst 1, 1) := by decide +kernel
theorem dX9_goes_175 : decode cX9_goes 175 = .ok (.if_icmp .ge 11, 3) := by decide +kernel
theorem dX9_goes_178 : decode cX9_goes 178 = .ok (.aload_n 0, 1) := by decide +kernel
theorem dX9_goes_179 : decode cX9_goes 179 = .ok (.iconst 0, 1) := by decide +kernel
theorem dX9_goes_180 : decode cX9_goes 180 = .ok (.putfield 161, 3) := by decide +kernel
theorem dX9_goes_183 : decode cX9_goes 183 = .ok (.iload 5, 2) := by decide +kernel
theorem dX9_goes_185 : decode cX9_goes 185 = .ok (.ireturn, 1) := by decide +kernel
theorem dX9_goes_186 : decode cX9_goes 186 = .ok (.iinc 4 1, 3) := by decide +kernel
theorem dX9_goes_189 : decode cX9_goes 189 = .ok (.goto (-144), 3) := by decide +kernel
theorem dX9_goes_192 : decode cX9_goes 192 = .ok (.ldc 128, 2) := by decide +kernel
theorem dX9_goes_194 : decode cX9_goes 194 = .ok (.ireturn, 1) := by decide +kernel
theorem dX9_startOf_0 : decode cX9_startOf 0 = .ok (.aload_n 0, 1) := by decide +kernel
theorem dX9_startOf_1 : decode cX9_startOf 1 = .ok (.getfield 7, 3) := by decide +kernel
theorem dX9_startOf_4 : decode cX9_startOf 4 = .ok (.iload_n 1, 1) := by decide +kernel
theorem dX9_startOf_5 : decode cX9_startOf 5 = .ok (.iconst 2, 1) := by decide +kernel
theorem dX9_startOf_6 : decode cX9_startOf 6 = .ok (.iadd, 1) := by decide +kernel
theorem dX9_startOf_7 : decode cX9_startOf 7 = .ok (.iaload, 1) := by decide +kernel
theorem dX9_startOf_8 : decode cX9_startOf 8 = .ok (.aload_n 0, 1) := by decide +kernel
theorem dX9_startOf_9 : decode cX9_startOf 9 = .ok (.getfield 7, 3) := by decide +kernel
theorem dX9_startOf_12 : decode cX9_startOf 12 = .ok (.iload_n 1, 1) := by decide +kernel
theorem dX9_startOf_13 : decode cX9_startOf 13 = .ok (.iconst 3, 1) := by decide +kernel
theorem dX9_startOf_14 : decode cX9_startOf 14 = .ok (.iadd, 1) := by decide +kernel
theorem dX9_startOf_15 : decode cX9_startOf 15 = .ok (.iaload, 1) := by decide +kernel
theorem dX9_startOf_16 : decode cX9_startOf 16 = .ok (.aload_n 0, 1) := by decide +kernel
theorem dX9_startOf_17 : decode cX9_startOf 17 = .ok (.getfield 7, 3) := by decide +kernel
theorem dX9_startOf_20 : decode cX9_startOf 20 = .ok (.iload_n 1, 1) := by decide +kernel
theorem dX9_startOf_21 : decode cX9_startOf 21 = .ok (.bipush 7, 2) := by decide +kernel
theorem dX9_startOf_23 : decode cX9_startOf 23 = .ok (.iadd, 1) := by decide +kernel
theorem dX9_startOf_24 : decode cX9_startOf 24 = .ok (.iaload, 1) := by decide +kernel
theorem dX9_startOf_25 : decode cX9_startOf 25 = .ok (.imul, 1) := by decide +kernel
theorem dX9_startOf_26 : decode cX9_startOf 26 = .ok (.iadd, 1) := by decide +kernel
theorem dX9_startOf_27 : decode cX9_startOf 27 = .ok (.bipush 7, 2) := by decide +kernel
theorem dX9_startOf_29 : decode cX9_startOf 29 = .ok (.irem, 1) := by decide +kernel
theorem dX9_startOf_30 : decode cX9_startOf 30 = .ok (.ireturn, 1) := by decide +kernel
theorem dX9_rollsNow_0 : decode cX9_rollsNow 0 = .ok (.aload_n 0, 1) := by decide +kernel
theorem dX9_rollsNow_1 : decode cX9_rollsNow 1 = .ok (.iload_n 1, 1) := by decide +kernel
theorem dX9_rollsNow_2 : decode cX9_rollsNow 2 = .ok (.aload_n 0, 1) := by decide +kernel
theorem dX9_rollsNow_3 : decode cX9_rollsNow 3 = .ok (.iload_n 1, 1) := by decide +kernel
theorem dX9_rollsNow_4 : decode cX9_rollsNow 4 = .ok (.invokevirtual 176, 3) := by decide +kernel
theorem dX9_rollsNow_7 : decode cX9_rollsNow 7 = .ok (.invokevirtual 179, 3) := by decide +kernel
theorem dX9_rollsNow_10 : decode cX9_rollsNow 10 = .ok (.ireturn, 1) := by decide +kernel
theorem dX9_pass_0 : decode cX9_pass 0 = .ok (.aload_n 0, 1) := by decide +kernel
theorem dX9_pass_1 : decode cX9_pass 1 = .ok (.iload_n 1, 1) := by decide +kernel
theorem dX9_pass_2 : decode cX9_pass 2 = .ok (.invokevirtual 182, 3) := by decide +kernel
theorem dX9_pass_5 : decode cX9_pass 5 = .ok (.istore_n 2, 1) := by decide +kernel
theorem dX9_pass_6 : decode cX9_pass 6 = .ok (.iload_n 2, 1) := by decide +kernel
theorem dX9_pass_7 : decode cX9_pass 7 = .ok (.ldc 128, 2) := by decide +kernel
theorem dX9_pass_9 : decode cX9_pass 9 = .ok (.if_icmp .eq 18, 3) := by decide +kernel
theorem dX9_pass_12 : decode cX9_pass 12 = .ok (.aload_n 0, 1) := by decide +kernel
theorem dX9_pass_13 : decode cX9_pass 13 = .ok (.getfield 7, 3) := by decide +kernel
theorem dX9_pass_16 : decode cX9_pass 16 = .ok (.iload_n 1, 1) := by decide +kernel
theorem dX9_pass_17 : decode cX9_pass 17 = .ok (.bipush 33, 2) := by decide +kernel
theorem dX9_pass_19 : decode cX9_pass 19 = .ok (.iadd, 1) := by decide +kernel
theorem dX9_pass_20 : decode cX9_pass 20 = .ok (.iload_n 2, 1) := by decide +kernel
theorem dX9_pass_21 : decode cX9_pass 21 = .ok (.iadd, 1) := by decide +kernel
theorem dX9_pass_22 : decode cX9_pass 22 = .ok (.dup2, 1) := by decide +kernel
theorem dX9_pass_23 : decode cX9_pass 23 = .ok (.iaload, 1) := by decide +kernel
theorem dX9_pass_24 : decode cX9_pass 24 = .ok (.iconst 1, 1) := by decide +kernel
theorem dX9_pass_25 : decode cX9_pass 25 = .ok (.iadd, 1) := by decide +kernel
theorem dX9_pass_26 : decode cX9_pass 26 = .ok (.iastore, 1) := by decide +kernel
theorem dX9_pass_27 : decode cX9_pass 27 = .ok (.aload_n 0, 1) := by decide +kernel
theorem dX9_pass_28 : decode cX9_pass 28 = .ok (.getfield 7, 3) := by decide +kernel
theorem dX9_pass_31 : decode cX9_pass 31 = .ok (.iload_n 1, 1) := by decide +kernel
theorem dX9_pass_32 : decode cX9_pass 32 = .ok (.bipush 7, 2) := by decide +kernel
theorem dX9_pass_34 : decode cX9_pass 34 = .ok (.iadd, 1) := by decide +kernel
theorem dX9_pass_35 : decode cX9_pass 35 = .ok (.dup2, 1) := by decide +kernel
theorem dX9_pass_36 : decode cX9_pass 36 = .ok (.iaload, 1) := by decide +kernel
theorem dX9_pass_37 : decode cX9_pass 37 = .ok (.iconst 1, 1) := by decide +kernel
theorem dX9_pass_38 : decode cX9_pass 38 = .ok (.iadd, 1) := by decide +kernel
theorem dX9_pass_39 : decode cX9_pass 39 = .ok (.iastore, 1) := by decide +kernel
theorem dX9_pass_40 : decode cX9_pass 40 = .ok (.iload_n 2, 1) := by decide +kernel
theorem dX9_pass_41 : decode cX9_pass 41 = .ok (.ireturn, 1) := by decide +kernel
theorem dX9_years_0 : decode cX9_years 0 = .ok (.aload_n 0, 1) := by decide +kernel
theorem dX9_years_1 : decode cX9_years 1 = .ok (.getfield 150, 3) := by decide +kernel
theorem dX9_years_4 : decode cX9_years 4 = .ok (.ifCond .ne 6, 3) := by decide +kernel
theorem dX9_years_7 : decode cX9_years 7 = .ok (.ldc 157, 2) := by decide +kernel
theorem dX9_years_9 : decode cX9_years 9 = .ok (.ireturn, 1) := by decide +kernel
theorem dX9_years_10 : decode cX9_years 10 = .ok (.iload_n 1, 1) := by decide +kernel
theorem dX9_years_11 : decode cX9_years 11 = .ok (.i2l, 1) := by decide +kernel
theorem dX9_years_12 : decode cX9_years 12 = .ok (.lconst 1, 1) := by decide +kernel
theorem dX9_years_13 : decode cX9_years 13 = .ok (.ldc2_w 185, 3) := by decide +kernel
theorem dX9_years_16 : decode cX9_years 16 = .ok (.invokestatic 60, 3) := by decide +kernel
theorem dX9_years_19 : decode cX9_years 19 = .ok (.ifCond .ne 6, 3) := by decide +kernel
theorem dX9_years_22 : decode cX9_years 22 = .ok (.ldc 70, 2) := by decide +kernel
theorem dX9_years_24 : decode cX9_years 24 = .ok (.ireturn, 1) := by decide +kernel
theorem dX9_years_25 : decode cX9_years 25 = .ok (.aload_n 0, 1) := by decide +kernel
theorem dX9_years_26 : decode cX9_years 26 = .ok (.getfield 7, 3) := by decide +kernel
theorem dX9_years_29 : decode cX9_years 29 = .ok (.bipush 7, 2) := by decide +kernel
theorem dX9_years_31 : decode cX9_years 31 = .ok (.iaload, 1) := by decide +kernel
theorem dX9_years_32 : decode cX9_years 32 = .ok (.iload_n 1, 1) := by decide +kernel
theorem dX9_years_33 : decode cX9_years 33 = .ok (.iadd, 1) := by decide +kernel
theorem dX9_years_34 : decode cX9_years 34 = .ok (.sipush 999, 3) := by decide +kernel
theorem dX9_years_37 : decode cX9_years 37 = .ok (.if_icmp .le 6, 3) := by decide +kernel
theorem dX9_years_40 : decode cX9_years 40 = .ok (.ldc 91, 2) := by decide +kernel
theorem dX9_years_42 : decode cX9_years 42 = .ok (.ireturn, 1) := by decide +kernel
theorem dX9_years_43 : decode cX9_years 43 = .ok (.ldc 128, 2) := by decide +kernel
theorem dX9_years_45 : decode cX9_years 45 = .ok (.istore_n 2, 1) := by decide +kernel
theorem dX9_years_46 : decode cX9_years 46 = .ok (.iconst 0, 1) := by decide +kernel
theorem dX9_years_47 : decode cX9_years 47 = .ok (.istore_n 3, 1) := by decide +kernel
theorem dX9_years_48 : decode cX9_years 48 = .ok (.iload_n 3, 1) := by decide +kernel
theorem dX9_years_49 : decode cX9_years 49 = .ok (.iload_n 1, 1) := by decide +kernel
theorem dX9_years_50 : decode cX9_years 50 = .ok (.if_icmp .ge 19, 3) := by decide +kernel
theorem dX9_years_53 : decode cX9_years 53 = .ok (.aload_n 0, 1) := by decide +kernel
theorem dX9_years_54 : decode cX9_years 54 = .ok (.invokevirtual 187, 3) := by decide +kernel
theorem dX9_years_57 : decode cX9_years 57 = .ok (.aload_n 0, 1) := by decide +kernel
theorem dX9_years_58 : decode cX9_years 58 = .ok (.iconst 0, 1) := by decide +kernel
theorem dX9_years_59 : decode cX9_years 59 = .ok (.invokevirtual 190, 3) := by decide +kernel
theorem dX9_years_62 : decode cX9_years 62 = .ok (.istore_n 2, 1) := by decide +kernel
theorem dX9_years_63 : decode cX9_years 63 = .ok (.iinc 3 1, 3) := by decide +kernel
theorem dX9_years_66 : decode cX9_years 66 = .ok (.goto (-18), 3) := by decide +kernel
theorem dX9_years_69 : decode cX9_years 69 = .ok (.iload_n 2, 1) := by decide +kernel
theorem dX9_years_70 : decode cX9_years 70 = .ok (.ireturn, 1) := by decide +kernel
theorem dX9_door_0 : decode cX9_door 0 = .ok (.aload_n 0, 1) := by decide +kernel
theorem dX9_door_1 : decode cX9_door 1 = .ok (.iload_n 1, 1) := by decide +kernel
theorem dX9_door_2 : decode cX9_door 2 = .ok (.invokevirtual 193, 3) := by decide +kernel
theorem dX9_door_5 : decode cX9_door 5 = .ok (.ifCond .eq 13, 3) := by decide +kernel
theorem dX9_door_8 : decode cX9_door 8 = .ok (.iload_n 2, 1) := by decide +kernel
theorem dX9_door_9 : decode cX9_door 9 = .ok (.i2l, 1) := by decide +kernel
theorem dX9_door_10 : decode cX9_door 10 = .ok (.lconst 0, 1) := by decide +kernel
theorem dX9_door_11 : decode cX9_door 11 = .ok (.lconst 1, 1) := by decide +kernel
theorem dX9_door_12 : decode cX9_door 12 = .ok (.invokestatic 60, 3) := by decide +kernel
theorem dX9_door_15 : decode cX9_door 15 = .ok (.ifCond .ne 6, 3) := by decide +kernel
theorem dX9_door_18 : decode cX9_door 18 = .ok (.ldc 70, 2) := by decide +kernel
theorem dX9_door_20 : decode cX9_door 20 = .ok (.ireturn, 1) := by decide +kernel
theorem dX9_door_21 : decode cX9_door 21 = .ok (.aload_n 0, 1) := by decide +kernel
theorem dX9_door_22 : decode cX9_door 22 = .ok (.getfield 7, 3) := by decide +kernel
theorem dX9_door_25 : decode cX9_door 25 = .ok (.bipush 8, 2) := by decide +kernel
theorem dX9_door_27 : decode cX9_door 27 = .ok (.iaload, 1) := by decide +kernel
theorem dX9_door_28 : decode cX9_door 28 = .ok (.iload_n 1, 1) := by decide +kernel
theorem dX9_door_29 : decode cX9_door 29 = .ok (.invokestatic 158, 3) := by decide +kernel
theorem dX9_door_32 : decode cX9_door 32 = .ok (.iload_n 2, 1) := by decide +kernel
theorem dX9_door_33 : decode cX9_door 33 = .ok (.iconst 1, 1) := by decide +kernel
theorem dX9_door_34 : decode cX9_door 34 = .ok (.if_icmp .ne 7, 3) := by decide +kernel
theorem dX9_door_37 : decode cX9_door 37 = .ok (.iconst 1, 1) := by decide +kernel
theorem dX9_door_38 : decode cX9_door 38 = .ok (.goto 4, 3) := by decide +kernel
theorem dX9_door_41 : decode cX9_door 41 = .ok (.iconst 0, 1) := by decide +kernel
theorem dX9_door_42 : decode cX9_door 42 = .ok (.if_icmp .ne 6, 3) := by decide +kernel
theorem dX9_door_45 : decode cX9_door 45 = .ok (.ldc 157, 2) := by decide +kernel
theorem dX9_door_47 : decode cX9_door 47 = .ok (.ireturn, 1) := by decide +kernel
theorem dX9_door_48 : decode cX9_door 48 = .ok (.aload_n 0, 1) := by decide +kernel
theorem dX9_door_49 : decode cX9_door 49 = .ok (.invokevirtual 187, 3) := by decide +kernel
theorem dX9_door_52 : decode cX9_door 52 = .ok (.aload_n 0, 1) := by decide +kernel
theorem dX9_door_53 : decode cX9_door 53 = .ok (.getfield 7, 3) := by decide +kernel
theorem dX9_door_56 : decode cX9_door 56 = .ok (.bipush 8, 2) := by decide +kernel
theorem dX9_door_58 : decode cX9_door 58 = .ok (.dup2, 1) := by decide +kernel
theorem dX9_door_59 : decode cX9_door 59 = .ok (.iaload, 1) := by decide +kernel
theorem dX9_door_60 : decode cX9_door 60 = .ok (.iconst 1, 1) := by decide +kernel
theorem dX9_door_61 : decode cX9_door 61 = .ok (.iload_n 1, 1) := by decide +kernel
theorem dX9_door_62 : decode cX9_door 62 = .ok (.ishl, 1) := by decide +kernel
theorem dX9_door_63 : decode cX9_door 63 = .ok (.ixor, 1) := by decide +kernel
theorem dX9_door_64 : decode cX9_door 64 = .ok (.iastore, 1) := by decide +kernel
theorem dX9_door_65 : decode cX9_door 65 = .ok (.aload_n 0, 1) := by decide +kernel
theorem dX9_door_66 : decode cX9_door 66 = .ok (.getfield 7, 3) := by decide +kernel
theorem dX9_door_69 : decode cX9_door 69 = .ok (.bipush 8, 2) := by decide +kernel
theorem dX9_door_71 : decode cX9_door 71 = .ok (.iaload, 1) := by decide +kernel
theorem dX9_door_72 : decode cX9_door 72 = .ok (.ireturn, 1) := by decide +kernel
theorem dX9_isPlace_0 : decode cX9_isPlace 0 = .ok (.iload_n 1, 1) := by decide +kernel
theorem dX9_isPlace_1 : decode cX9_isPlace 1 = .ok (.i2l, 1) := by decide +kernel
theorem dX9_isPlace_2 : decode cX9_isPlace 2 = .ok (.lconst 1, 1) := by decide +kernel
theorem dX9_isPlace_3 : decode cX9_isPlace 3 = .ok (.aload_n 0, 1) := by decide +kernel
theorem dX9_isPlace_4 : decode cX9_isPlace 4 = .ok (.getfield 7, 3) := by decide +kernel
theorem dX9_isPlace_7 : decode cX9_isPlace 7 = .ok (.iconst 0, 1) := by decide +kernel
theorem dX9_isPlace_8 : decode cX9_isPlace 8 = .ok (.iaload, 1) := by decide +kernel
theorem dX9_isPlace_9 : decode cX9_isPlace 9 = .ok (.i2l, 1) := by decide +kernel
theorem dX9_isPlace_10 : decode cX9_isPlace 10 = .ok (.invokestatic 60, 3) := by decide +kernel
theorem dX9_isPlace_13 : decode cX9_isPlace 13 = .ok (.ifCond .eq 19, 3) := by decide +kernel
theorem dX9_isPlace_16 : decode cX9_isPlace 16 = .ok (.iload_n 2, 1) := by decide +kernel
theorem dX9_isPlace_17 : decode cX9_isPlace 17 = .ok (.i2l, 1) := by decide +kernel
theorem dX9_isPlace_18 : decode cX9_isPlace 18 = .ok (.lconst 0, 1) := by decide +kernel
theorem dX9_isPlace_19 : decode cX9_isPlace 19 = .ok (.ldc2_w 196, 3) := by decide +kernel
theorem dX9_isPlace_22 : decode cX9_isPlace 22 = .ok (.invokestatic 60, 3) := by decide +kernel
theorem dX9_isPlace_25 : decode cX9_isPlace 25 = .ok (.ifCond .eq 7, 3) := by decide +kernel
theorem dX9_isPlace_28 : decode cX9_isPlace 28 = .ok (.iconst 1, 1) := by decide +kernel
theorem dX9_isPlace_29 : decode cX9_isPlace 29 = .ok (.goto 4, 3) := by decide +kernel
theorem dX9_isPlace_32 : decode cX9_isPlace 32 = .ok (.iconst 0, 1) := by decide +kernel
theorem dX9_isPlace_33 : decode cX9_isPlace 33 = .ok (.ireturn, 1) := by decide +kernel
theorem dX9_build_0 : decode cX9_build 0 = .ok (.aload_n 0, 1) := by decide +kernel
theorem dX9_build_1 : decode cX9_build 1 = .ok (.iload_n 1, 1) := by decide +kernel
theorem dX9_build_2 : decode cX9_build 2 = .ok (.invokevirtual 193, 3) := by decide +kernel
theorem dX9_build_5 : decode cX9_build 5 = .ok (.ifCond .eq 12, 3) := by decide +kernel
theorem dX9_build_8 : decode cX9_build 8 = .ok (.aload_n 0, 1) := by decide +kernel
theorem dX9_build_9 : decode cX9_build 9 = .ok (.iload_n 2, 1) := by decide +kernel
theorem dX9_build_10 : decode cX9_build 10 = .ok (.iload_n 3, 1) := by decide +kernel
theorem dX9_build_11 : decode cX9_build 11 = .ok (.invokevirtual 198, 3) := by decide +kernel
theorem dX9_build_14 : decode cX9_build 14 = .ok (.ifCond .ne 6, 3) := by decide +kernel
theorem dX9_build_17 : decode cX9_build 17 = .ok (.ldc 70, 2) := by decide +kernel
theorem dX9_build_19 : decode cX9_build 19 = .ok (.ireturn, 1) := by decide +kernel
theorem dX9_build_20 : decode cX9_build 20 = .ok (.aload_n 0, 1) := by decide +kernel
theorem dX9_build_21 : decode cX9_build 21 = .ok (.iconst 0, 1) := by decide +kernel
theorem dX9_build_22 : decode cX9_build 22 = .ok (.iload_n 2, 1) := by decide +kernel
theorem dX9_build_23 : decode cX9_build 23 = .ok (.iload_n 3, 1) := by decide +kernel
theorem dX9_build_24 : decode cX9_build 24 = .ok (.invokevirtual 124, 3) := by decide +kernel
theorem dX9_build_27 : decode cX9_build 27 = .ok (.ldc 128, 2) := by decide +kernel
theorem dX9_build_29 : decode cX9_build 29 = .ok (.if_icmp .eq 6, 3) := by decide +kernel
theorem dX9_build_32 : decode cX9_build 32 = .ok (.ldc 157, 2) := by decide +kernel
theorem dX9_build_34 : decode cX9_build 34 = .ok (.ireturn, 1) := by decide +kernel
theorem dX9_build_35 : decode cX9_build 35 = .ok (.aload_n 0, 1) := by decide +kernel
theorem dX9_build_36 : decode cX9_build 36 = .ok (.invokevirtual 187, 3) := by decide +kernel
theorem dX9_build_39 : decode cX9_build 39 = .ok (.bipush 10, 2) := by decide +kernel
theorem dX9_build_41 : decode cX9_build 41 = .ok (.aload_n 0, 1) := by decide +kernel
theorem dX9_build_42 : decode cX9_build 42 = .ok (.getfield 7, 3) := by decide +kernel
theorem dX9_build_45 : decode cX9_build 45 = .ok (.bipush 15, 2) := by decide +kernel
theorem dX9_build_47 : decode cX9_build 47 = .ok (.iload_n 1, 1) := by decide +kernel
theorem dX9_build_48 : decode cX9_build 48 = .ok (.iadd, 1) := by decide +kernel
theorem dX9_build_49 : decode cX9_build 49 = .ok (.iaload, 1) := by decide +kernel
theorem dX9_build_50 : decode cX9_build 50 = .ok (.imul, 1) := by decide +kernel
theorem dX9_build_51 : decode cX9_build 51 = .ok (.aload_n 0, 1) := by decide +kernel
theorem dX9_build_52 : decode cX9_build 52 = .ok (.getfield 7, 3) := by decide +kernel
theorem dX9_build_55 : decode cX9_build 55 = .ok (.bipush 21, 2) := by decide +kernel
theorem dX9_build_57 : decode cX9_build 57 = .ok (.iload_n 1, 1) := by decide +kernel
theorem dX9_build_58 : decode cX9_build 58 = .ok (.iadd, 1) := by decide +kernel
theorem dX9_build_59 : decode cX9_build 59 = .ok (.iaload, 1) := by decide +kernel
theorem dX9_build_60 : decode cX9_build 60 = .ok (.iadd, 1) := by decide +kernel
theorem dX9_build_61 : decode cX9_build 61 = .ok (.istore 4, 2) := by decide +kernel
theorem dX9_build_63 : decode cX9_build 63 = .ok (.aload_n 0, 1) := by decide +kernel
theorem dX9_build_64 : decode cX9_build 64 = .ok (.getfield 7, 3) := by decide +kernel
theorem dX9_build_67 : decode cX9_build 67 = .ok (.bipush 15, 2) := by decide +kernel
theorem dX9_build_69 : decode cX9_build 69 = .ok (.iload_n 1, 1) := by decide +kernel
theorem dX9_build_70 : decode cX9_build 70 = .ok (.iadd, 1) := by decide +kernel
theorem dX9_build_71 : decode cX9_build 71 = .ok (.iload_n 2, 1) := by decide +kernel
theorem dX9_build_72 : decode cX9_build 72 = .ok (.iastore, 1) := by decide +kernel
theorem dX9_build_73 : decode cX9_build 73 = .ok (.aload_n 0, 1) := by decide +kernel
theorem dX9_build_74 : decode cX9_build 74 = .ok (.getfield 7, 3) := by decide +kernel
theorem dX9_build_77 : decode cX9_build 77 = .ok (.bipush 21, 2) := by decide +kernel
theorem dX9_build_79 : decode cX9_build 79 = .ok (.iload_n 1, 1) := by decide +kernel
theorem dX9_build_80 : decode cX9_build 80 = .ok (.iadd, 1) := by decide +kernel
theorem dX9_build_81 : decode cX9_build 81 = .ok (.iload_n 3, 1) := by decide +kernel
theorem dX9_build_82 : decode cX9_build 82 = .ok (.iastore, 1) := by decide +kernel
theorem dX9_build_83 : decode cX9_build 83 = .ok (.iload 4, 2) := by decide +kernel
theorem dX9_build_85 : decode cX9_build 85 = .ok (.ireturn, 1) := by decide +kernel
theorem dX9_speed_0 : decode cX9_speed 0 = .ok (.aload_n 0, 1) := by decide +kernel
theorem dX9_speed_1 : decode cX9_speed 1 = .ok (.getfield 150, 3) := by decide +kernel
theorem dX9_speed_4 : decode cX9_speed 4 = .ok (.ifCond .ne 6, 3) := by decide +kernel
theorem dX9_speed_7 : decode cX9_speed 7 = .ok (.ldc 157, 2) := by decide +kernel
theorem dX9_speed_9 : decode cX9_speed 9 = .ok (.ireturn, 1) := by decide +kernel
theorem dX9_speed_10 : decode cX9_speed 10 = .ok (.iload_n 1, 1) := by decide +kernel
theorem dX9_speed_11 : decode cX9_speed 11 = .ok (.i2l, 1) := by decide +kernel
theorem dX9_speed_12 : decode cX9_speed 12 = .ok (.lconst 1, 1) := by decide +kernel
theorem dX9_speed_13 : decode cX9_speed 13 = .ok (.ldc2_w 201, 3) := by decide +kernel
theorem dX9_speed_16 : decode cX9_speed 16 = .ok (.invokestatic 60, 3) := by decide +kernel
theorem dX9_speed_19 : decode cX9_speed 19 = .ok (.ifCond .ne 6, 3) := by decide +kernel
theorem dX9_speed_22 : decode cX9_speed 22 = .ok (.ldc 70, 2) := by decide +kernel
theorem dX9_speed_24 : decode cX9_speed 24 = .ok (.ireturn, 1) := by decide +kernel
theorem dX9_speed_25 : decode cX9_speed 25 = .ok (.aload_n 0, 1) := by decide +kernel
theorem dX9_speed_26 : decode cX9_speed 26 = .ok (.invokevirtual 187, 3) := by decide +kernel
theorem dX9_speed_29 : decode cX9_speed 29 = .ok (.aload_n 0, 1) := by decide +kernel
theorem dX9_speed_30 : decode cX9_speed 30 = .ok (.getfield 7, 3) := by decide +kernel
theorem dX9_speed_33 : decode cX9_speed 33 = .ok (.iconst 4, 1) := by decide +kernel
theorem dX9_speed_34 : decode cX9_speed 34 = .ok (.iaload, 1) := by decide +kernel
theorem dX9_speed_35 : decode cX9_speed 35 = .ok (.istore_n 2, 1) := by decide +kernel
theorem dX9_speed_36 : decode cX9_speed 36 = .ok (.aload_n 0, 1) := by decide +kernel
theorem dX9_speed_37 : decode cX9_speed 37 = .ok (.getfield 7, 3) := by decide +kernel
theorem dX9_speed_40 : decode cX9_speed 40 = .ok (.iconst 4, 1) := by decide +kernel
theorem dX9_speed_41 : decode cX9_speed 41 = .ok (.iload_n 1, 1) := by decide +kernel
theorem dX9_speed_42 : decode cX9_speed 42 = .ok (.iastore, 1) := by decide +kernel
theorem dX9_speed_43 : decode cX9_speed 43 = .ok (.iload_n 2, 1) := by decide +kernel
theorem dX9_speed_44 : decode cX9_speed 44 = .ok (.ireturn, 1) := by decide +kernel
theorem dX9_house_0 : decode cX9_house 0 = .ok (.aload_n 0, 1) := by decide +kernel
theorem dX9_house_1 : decode cX9_house 1 = .ok (.iload_n 1, 1) := by decide +kernel
theorem dX9_house_2 : decode cX9_house 2 = .ok (.invokevirtual 193, 3) := by decide +kernel
theorem dX9_house_5 : decode cX9_house 5 = .ok (.ifCond .ne 6, 3) := by decide +kernel
theorem dX9_house_8 : decode cX9_house 8 = .ok (.ldc 70, 2) := by decide +kernel
theorem dX9_house_10 : decode cX9_house 10 = .ok (.ireturn, 1) := by decide +kernel
theorem dX9_house_11 : decode cX9_house 11 = .ok (.iload_n 2, 1) := by decide +kernel
theorem dX9_house_12 : decode cX9_house 12 = .ok (.tableswitch 88 0 4 #[36, 46, 56, 66, 78], 36) := by decide +kernel
theorem dX9_house_48 : decode cX9_house 48 = .ok (.aload_n 0, 1) := by decide +kernel
theorem dX9_house_49 : decode cX9_house 49 = .ok (.getfield 7, 3) := by decide +kernel
theorem dX9_house_52 : decode cX9_house 52 = .ok (.bipush 15, 2) := by decide +kernel
theorem dX9_house_54 : decode cX9_house 54 = .ok (.iload_n 1, 1) := by decide +kernel
theorem dX9_house_55 : decode cX9_house 55 = .ok (.iadd, 1) := by decide +kernel
theorem dX9_house_56 : decode cX9_house 56 = .ok (.iaload, 1) := by decide +kernel
theorem dX9_house_57 : decode cX9_house 57 = .ok (.ireturn, 1) := by decide +kernel
theorem dX9_house_58 : decode cX9_house 58 = .ok (.aload_n 0, 1) := by decide +kernel
theorem dX9_house_59 : decode cX9_house 59 = .ok (.getfield 7, 3) := by decide +kernel
theorem dX9_house_62 : decode cX9_house 62 = .ok (.bipush 21, 2) := by decide +kernel
theorem dX9_house_64 : decode cX9_house 64 = .ok (.iload_n 1, 1) := by decide +kernel
theorem dX9_house_65 : decode cX9_house 65 = .ok (.iadd, 1) := by decide +kernel
theorem dX9_house_66 : decode cX9_house 66 = .ok (.iaload, 1) := by decide +kernel
theorem dX9_house_67 : decode cX9_house 67 = .ok (.ireturn, 1) := by decide +kernel
theorem dX9_house_68 : decode cX9_house 68 = .ok (.aload_n 0, 1) := by decide +kernel
theorem dX9_house_69 : decode cX9_house 69 = .ok (.getfield 7, 3) := by decide +kernel
theorem dX9_house_72 : decode cX9_house 72 = .ok (.bipush 27, 2) := by decide +kernel
theorem dX9_house_74 : decode cX9_house 74 = .ok (.iload_n 1, 1) := by decide +kernel
theorem dX9_house_75 : decode cX9_house 75 = .ok (.iadd, 1) := by decide +kernel
theorem dX9_house_76 : decode cX9_house 76 = .ok (.iaload, 1) := by decide +kernel
theorem dX9_house_77 : decode cX9_house 77 = .ok (.ireturn, 1) := by decide +kernel
theorem dX9_house_78 : decode cX9_house 78 = .ok (.aload_n 0, 1) := by decide +kernel
theorem dX9_house_79 : decode cX9_house 79 = .ok (.getfield 7, 3) := by decide +kernel
theorem dX9_house_82 : decode cX9_house 82 = .ok (.bipush 8, 2) := by decide +kernel
theorem dX9_house_84 : decode cX9_house 84 = .ok (.iaload, 1) := by decide +kernel
theorem dX9_house_85 : decode cX9_house 85 = .ok (.iload_n 1, 1) := by decide +kernel
theorem dX9_house_86 : decode cX9_house 86 = .ok (.ishr, 1) := by decide +kernel
theorem dX9_house_87 : decode cX9_house 87 = .ok (.iconst 1, 1) := by decide +kernel
theorem dX9_house_88 : decode cX9_house 88 = .ok (.iand, 1) := by decide +kernel
theorem dX9_house_89 : decode cX9_house 89 = .ok (.ireturn, 1) := by decide +kernel
theorem dX9_house_90 : decode cX9_house 90 = .ok (.aload_n 0, 1) := by decide +kernel
theorem dX9_house_91 : decode cX9_house 91 = .ok (.getfield 7, 3) := by decide +kernel
theorem dX9_house_94 : decode cX9_house 94 = .ok (.bipush 33, 2) := by decide +kernel
theorem dX9_house_96 : decode cX9_house 96 = .ok (.iload_n 1, 1) := by decide +kernel
theorem dX9_house_97 : decode cX9_house 97 = .ok (.iadd, 1) := by decide +kernel
theorem dX9_house_98 : decode cX9_house 98 = .ok (.iaload, 1) := by decide +kernel
theorem dX9_house_99 : decode cX9_house 99 = .ok (.ireturn, 1) := by decide +kernel
theorem dX9_house_100 : decode cX9_house 100 = .ok (.ldc 70, 2) := by decide +kernel
theorem dX9_house_102 : decode cX9_house 102 = .ok (.ireturn, 1) := by decide +kernel
theorem dX9_at_0 : decode cX9_at 0 = .ok (.aload_n 0, 1) := by decide +kernel
theorem dX9_at_1 : decode cX9_at 1 = .ok (.iload_n 1, 1) := by decide +kernel
theorem dX9_at_2 : decode cX9_at 2 = .ok (.iload_n 2, 1) := by decide +kernel
theorem dX9_at_3 : decode cX9_at 3 = .ok (.invokevirtual 198, 3) := by decide +kernel
theorem dX9_at_6 : decode cX9_at 6 = .ok (.ifCond .eq 13, 3) := by decide +kernel
theorem dX9_at_9 : decode cX9_at 9 = .ok (.aload_n 0, 1) := by decide +kernel
theorem dX9_at_10 : decode cX9_at 10 = .ok (.iconst 0, 1) := by decide +kernel
theorem dX9_at_11 : decode cX9_at 11 = .ok (.iload_n 1, 1) := by decide +kernel
theorem dX9_at_12 : decode cX9_at 12 = .ok (.iload_n 2, 1) := by decide +kernel
theorem dX9_at_13 : decode cX9_at 13 = .ok (.invokevirtual 124, 3) := by decide +kernel
theorem dX9_at_16 : decode cX9_at 16 = .ok (.goto 5, 3) := by decide +kernel
theorem dX9_at_19 : decode cX9_at 19 = .ok (.ldc 70, 2) := by decide +kernel
theorem dX9_at_21 : decode cX9_at 21 = .ok (.ireturn, 1) := by decide +kernel
theorem dX9_layTried_0 : decode cX9_layTried 0 = .ok (.aload_n 0, 1) := by decide +kernel
theorem dX9_layTried_1 : decode cX9_layTried 1 = .ok (.iconst 0, 1) := by decide +kernel
theorem dX9_layTried_2 : decode cX9_layTried 2 = .ok (.sipush 1053, 3) := by decide +kernel
theorem dX9_layTried_5 : decode cX9_layTried 5 = .ok (.invokevirtual 146, 3) := by decide +kernel
theorem dX9_layTried_8 : decode cX9_layTried 8 = .ok (.return_, 1) := by decide +kernel
theorem dX9_restsIn_0 : decode cX9_restsIn 0 = .ok (.aload_n 0, 1) := by decide +kernel
theorem dX9_restsIn_1 : decode cX9_restsIn 1 = .ok (.getfield 7, 3) := by decide +kernel
theorem dX9_restsIn_4 : decode cX9_restsIn 4 = .ok (.sipush 1060, 3) := by decide +kernel
theorem dX9_restsIn_7 : decode cX9_restsIn 7 = .ok (.aload_n 0, 1) := by decide +kernel
theorem dX9_restsIn_8 : decode cX9_restsIn 8 = .ok (.getfield 7, 3) := by decide +kernel
theorem dX9_restsIn_11 : decode cX9_restsIn 11 = .ok (.bipush 7, 2) := by decide +kernel
theorem dX9_restsIn_13 : decode cX9_restsIn 13 = .ok (.iaload, 1) := by decide +kernel
theorem dX9_restsIn_14 : decode cX9_restsIn 14 = .ok (.iload_n 1, 1) := by decide +kernel
theorem dX9_restsIn_15 : decode cX9_restsIn 15 = .ok (.iadd, 1) := by decide +kernel
theorem dX9_restsIn_16 : decode cX9_restsIn 16 = .ok (.iastore, 1) := by decide +kernel
theorem dX9_restsIn_17 : decode cX9_restsIn 17 = .ok (.aload_n 0, 1) := by decide +kernel
theorem dX9_restsIn_18 : decode cX9_restsIn 18 = .ok (.sipush 1053, 3) := by decide +kernel
theorem dX9_restsIn_21 : decode cX9_restsIn 21 = .ok (.invokevirtual 182, 3) := by decide +kernel
theorem dX9_restsIn_24 : decode cX9_restsIn 24 = .ok (.ireturn, 1) := by decide +kernel
theorem dX9_noYears_0 : decode cX9_noYears 0 = .ok (.aload_n 0, 1) := by decide +kernel
theorem dX9_noYears_1 : decode cX9_noYears 1 = .ok (.getfield 150, 3) := by decide +kernel
theorem dX9_noYears_4 : decode cX9_noYears 4 = .ok (.ifCond .ne 8, 3) := by decide +kernel
theorem dX9_noYears_7 : decode cX9_noYears 7 = .ok (.ldc 157, 2) := by decide +kernel
theorem dX9_noYears_9 : decode cX9_noYears 9 = .ok (.goto 21, 3) := by decide +kernel
theorem dX9_noYears_12 : decode cX9_noYears 12 = .ok (.iload_n 1, 1) := by decide +kernel
theorem dX9_noYears_13 : decode cX9_noYears 13 = .ok (.i2l, 1) := by decide +kernel
theorem dX9_noYears_14 : decode cX9_noYears 14 = .ok (.lconst 0, 1) := by decide +kernel
theorem dX9_noYears_15 : decode cX9_noYears 15 = .ok (.ldc2_w 203, 3) := by decide +kernel
theorem dX9_noYears_18 : decode cX9_noYears 18 = .ok (.invokestatic 60, 3) := by decide +kernel
theorem dX9_noYears_21 : decode cX9_noYears 21 = .ok (.ifCond .eq 7, 3) := by decide +kernel
theorem dX9_noYears_24 : decode cX9_noYears 24 = .ok (.iconst 0, 1) := by decide +kernel
theorem dX9_noYears_25 : decode cX9_noYears 25 = .ok (.goto 5, 3) := by decide +kernel
theorem dX9_noYears_28 : decode cX9_noYears 28 = .ok (.ldc 70, 2) := by decide +kernel
theorem dX9_noYears_30 : decode cX9_noYears 30 = .ok (.ireturn, 1) := by decide +kernel
theorem dX9_rests_0 : decode cX9_rests 0 = .ok (.aload_n 0, 1) := by decide +kernel
theorem dX9_rests_1 : decode cX9_rests 1 = .ok (.iload_n 1, 1) := by decide +kernel
theorem dX9_rests_2 : decode cX9_rests 2 = .ok (.invokevirtual 205, 3) := by decide +kernel
theorem dX9_rests_5 : decode cX9_rests 5 = .ok (.istore_n 2, 1) := by decide +kernel
theorem dX9_rests_6 : decode cX9_rests 6 = .ok (.iload_n 2, 1) := by decide +kernel
theorem dX9_rests_7 : decode cX9_rests 7 = .ok (.ifCond .eq 5, 3) := by decide +kernel
theorem dX9_rests_10 : decode cX9_rests 10 = .ok (.iload_n 2, 1) := by decide +kernel
theorem dX9_rests_11 : decode cX9_rests 11 = .ok (.ireturn, 1) := by decide +kernel
theorem dX9_rests_12 : decode cX9_rests 12 = .ok (.aload_n 0, 1) := by decide +kernel
theorem dX9_rests_13 : decode cX9_rests 13 = .ok (.invokevirtual 208, 3) := by decide +kernel
theorem dX9_rests_16 : decode cX9_rests 16 = .ok (.aload_n 0, 1) := by decide +kernel
theorem dX9_rests_17 : decode cX9_rests 17 = .ok (.iload_n 1, 1) := by decide +kernel
theorem dX9_rests_18 : decode cX9_rests 18 = .ok (.invokevirtual 211, 3) := by decide +kernel
theorem dX9_rests_21 : decode cX9_rests 21 = .ok (.ireturn, 1) := by decide +kernel
theorem dX9_line_0 : decode cX9_line 0 = .ok (.aload_n 0, 1) := by decide +kernel
