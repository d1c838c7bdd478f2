theorem dX0_init_0 : decode cX0_init 0 = .ok (.aload_n 0, 1) := by decide +kernel
theorem dX0_init_1 : decode cX0_init 1 = .ok (.invokespecial 3, 3) := by decide +kernel
theorem dX0_init_4 : decode cX0_init 4 = .ok (.aload_n 0, 1) := by decide +kernel
theorem dX0_init_5 : decode cX0_init 5 = .ok (.bipush 24, 2) := by decide +kernel
theorem dX0_init_7 : decode cX0_init 7 = .ok (.newarray .int, 2) := by decide +kernel
theorem dX0_init_9 : decode cX0_init 9 = .ok (.putfield 9, 3) := by decide +kernel
theorem dX0_init_12 : decode cX0_init 12 = .ok (.aload_n 0, 1) := by decide +kernel
theorem dX0_init_13 : decode cX0_init 13 = .ok (.bipush 24, 2) := by decide +kernel
theorem dX0_init_15 : decode cX0_init 15 = .ok (.newarray .int, 2) := by decide +kernel
theorem dX0_init_17 : decode cX0_init 17 = .ok (.putfield 15, 3) := by decide +kernel
theorem dX0_init_20 : decode cX0_init 20 = .ok (.aload_n 0, 1) := by decide +kernel
theorem dX0_init_21 : decode cX0_init 21 = .ok (.bipush 24, 2) := by decide +kernel
theorem dX0_init_23 : decode cX0_init 23 = .ok (.newarray .int, 2) := by decide +kernel
theorem dX0_init_25 : decode cX0_init 25 = .ok (.putfield 18, 3) := by decide +kernel
theorem dX0_init_28 : decode cX0_init 28 = .ok (.return_, 1) := by decide +kernel
theorem dX0_keep_0 : decode cX0_keep 0 = .ok (.aload_n 0, 1) := by decide +kernel
theorem dX0_keep_1 : decode cX0_keep 1 = .ok (.getfield 21, 3) := by decide +kernel
theorem dX0_keep_4 : decode cX0_keep 4 = .ok (.bipush 24, 2) := by decide +kernel
theorem dX0_keep_6 : decode cX0_keep 6 = .ok (.if_icmp .lt 7, 3) := by decide +kernel
theorem dX0_keep_9 : decode cX0_keep 9 = .ok (.aload_n 0, 1) := by decide +kernel
theorem dX0_keep_10 : decode cX0_keep 10 = .ok (.invokevirtual 25, 3) := by decide +kernel
theorem dX0_keep_13 : decode cX0_keep 13 = .ok (.aload_n 0, 1) := by decide +kernel
theorem dX0_keep_14 : decode cX0_keep 14 = .ok (.getfield 9, 3) := by decide +kernel
theorem dX0_keep_17 : decode cX0_keep 17 = .ok (.aload_n 0, 1) := by decide +kernel
theorem dX0_keep_18 : decode cX0_keep 18 = .ok (.getfield 21, 3) := by decide +kernel
theorem dX0_keep_21 : decode cX0_keep 21 = .ok (.iload_n 1, 1) := by decide +kernel
theorem dX0_keep_22 : decode cX0_keep 22 = .ok (.iastore, 1) := by decide +kernel
theorem dX0_keep_23 : decode cX0_keep 23 = .ok (.aload_n 0, 1) := by decide +kernel
theorem dX0_keep_24 : decode cX0_keep 24 = .ok (.getfield 15, 3) := by decide +kernel
theorem dX0_keep_27 : decode cX0_keep 27 = .ok (.aload_n 0, 1) := by decide +kernel
theorem dX0_keep_28 : decode cX0_keep 28 = .ok (.getfield 21, 3) := by decide +kernel
theorem dX0_keep_31 : decode cX0_keep 31 = .ok (.iload_n 2, 1) := by decide +kernel
theorem dX0_keep_32 : decode cX0_keep 32 = .ok (.iastore, 1) := by decide +kernel
theorem dX0_keep_33 : decode cX0_keep 33 = .ok (.aload_n 0, 1) := by decide +kernel
theorem dX0_keep_34 : decode cX0_keep 34 = .ok (.getfield 18, 3) := by decide +kernel
theorem dX0_keep_37 : decode cX0_keep 37 = .ok (.aload_n 0, 1) := by decide +kernel
theorem dX0_keep_38 : decode cX0_keep 38 = .ok (.getfield 21, 3) := by decide +kernel
theorem dX0_keep_41 : decode cX0_keep 41 = .ok (.iload_n 3, 1) := by decide +kernel
theorem dX0_keep_42 : decode cX0_keep 42 = .ok (.iastore, 1) := by decide +kernel
theorem dX0_keep_43 : decode cX0_keep 43 = .ok (.aload_n 0, 1) := by decide +kernel
theorem dX0_keep_44 : decode cX0_keep 44 = .ok (.dup, 1) := by decide +kernel
theorem dX0_keep_45 : decode cX0_keep 45 = .ok (.getfield 21, 3) := by decide +kernel
theorem dX0_keep_48 : decode cX0_keep 48 = .ok (.iconst 1, 1) := by decide +kernel
theorem dX0_keep_49 : decode cX0_keep 49 = .ok (.iadd, 1) := by decide +kernel
theorem dX0_keep_50 : decode cX0_keep 50 = .ok (.putfield 21, 3) := by decide +kernel
theorem dX0_keep_53 : decode cX0_keep 53 = .ok (.return_, 1) := by decide +kernel
theorem dX0_forgetOldest_0 : decode cX0_forgetOldest 0 = .ok (.aload_n 0, 1) := by decide +kernel
theorem dX0_forgetOldest_1 : decode cX0_forgetOldest 1 = .ok (.bipush 23, 2) := by decide +kernel
theorem dX0_forgetOldest_3 : decode cX0_forgetOldest 3 = .ok (.putfield 21, 3) := by decide +kernel
theorem dX0_forgetOldest_6 : decode cX0_forgetOldest 6 = .ok (.aload_n 0, 1) := by decide +kernel
theorem dX0_forgetOldest_7 : decode cX0_forgetOldest 7 = .ok (.getfield 9, 3) := by decide +kernel
theorem dX0_forgetOldest_10 : decode cX0_forgetOldest 10 = .ok (.iconst 1, 1) := by decide +kernel
theorem dX0_forgetOldest_11 : decode cX0_forgetOldest 11 = .ok (.aload_n 0, 1) := by decide +kernel
theorem dX0_forgetOldest_12 : decode cX0_forgetOldest 12 = .ok (.getfield 9, 3) := by decide +kernel
theorem dX0_forgetOldest_15 : decode cX0_forgetOldest 15 = .ok (.iconst 0, 1) := by decide +kernel
theorem dX0_forgetOldest_16 : decode cX0_forgetOldest 16 = .ok (.aload_n 0, 1) := by decide +kernel
theorem dX0_forgetOldest_17 : decode cX0_forgetOldest 17 = .ok (.getfield 21, 3) := by decide +kernel
theorem dX0_forgetOldest_20 : decode cX0_forgetOldest 20 = .ok (.invokestatic 28, 3) := by decide +kernel
theorem dX0_forgetOldest_23 : decode cX0_forgetOldest 23 = .ok (.aload_n 0, 1) := by decide +kernel
theorem dX0_forgetOldest_24 : decode cX0_forgetOldest 24 = .ok (.getfield 15, 3) := by decide +kernel
theorem dX0_forgetOldest_27 : decode cX0_forgetOldest 27 = .ok (.iconst 1, 1) := by decide +kernel
theorem dX0_forgetOldest_28 : decode cX0_forgetOldest 28 = .ok (.aload_n 0, 1) := by decide +kernel
theorem dX0_forgetOldest_29 : decode cX0_forgetOldest 29 = .ok (.getfield 15, 3) := by decide +kernel
theorem dX0_forgetOldest_32 : decode cX0_forgetOldest 32 = .ok (.iconst 0, 1) := by decide +kernel
theorem dX0_forgetOldest_33 : decode cX0_forgetOldest 33 = .ok (.aload_n 0, 1) := by decide +kernel
theorem dX0_forgetOldest_34 : decode cX0_forgetOldest 34 = .ok (.getfield 21, 3) := by decide +kernel
theorem dX0_forgetOldest_37 : decode cX0_forgetOldest 37 = .ok (.invokestatic 28, 3) := by decide +kernel
theorem dX0_forgetOldest_40 : decode cX0_forgetOldest 40 = .ok (.aload_n 0, 1) := by decide +kernel
theorem dX0_forgetOldest_41 : decode cX0_forgetOldest 41 = .ok (.getfield 18, 3) := by decide +kernel
theorem dX0_forgetOldest_44 : decode cX0_forgetOldest 44 = .ok (.iconst 1, 1) := by decide +kernel
theorem dX0_forgetOldest_45 : decode cX0_forgetOldest 45 = .ok (.aload_n 0, 1) := by decide +kernel
theorem dX0_forgetOldest_46 : decode cX0_forgetOldest 46 = .ok (.getfield 18, 3) := by decide +kernel
theorem dX0_forgetOldest_49 : decode cX0_forgetOldest 49 = .ok (.iconst 0, 1) := by decide +kernel
theorem dX0_forgetOldest_50 : decode cX0_forgetOldest 50 = .ok (.aload_n 0, 1) := by decide +kernel
theorem dX0_forgetOldest_51 : decode cX0_forgetOldest 51 = .ok (.getfield 21, 3) := by decide +kernel
theorem dX0_forgetOldest_54 : decode cX0_forgetOldest 54 = .ok (.invokestatic 28, 3) := by decide +kernel
theorem dX0_forgetOldest_57 : decode cX0_forgetOldest 57 = .ok (.return_, 1) := by decide +kernel
theorem dX0_takeBackLatest_0 : decode cX0_takeBackLatest 0 = .ok (.aload_n 0, 1) := by decide +kernel
theorem dX0_takeBackLatest_1 : decode cX0_takeBackLatest 1 = .ok (.getfield 21, 3) := by decide +kernel
theorem dX0_takeBackLatest_4 : decode cX0_takeBackLatest 4 = .ok (.iconst 1, 1) := by decide +kernel
theorem dX0_takeBackLatest_5 : decode cX0_takeBackLatest 5 = .ok (.if_icmp .ge 4, 3) := by decide +kernel
theorem dX0_takeBackLatest_8 : decode cX0_takeBackLatest 8 = .ok (.return_, 1) := by decide +kernel
theorem dX0_takeBackLatest_9 : decode cX0_takeBackLatest 9 = .ok (.aload_n 0, 1) := by decide +kernel
theorem dX0_takeBackLatest_10 : decode cX0_takeBackLatest 10 = .ok (.dup, 1) := by decide +kernel
theorem dX0_takeBackLatest_11 : decode cX0_takeBackLatest 11 = .ok (.getfield 21, 3) := by decide +kernel
theorem dX0_takeBackLatest_14 : decode cX0_takeBackLatest 14 = .ok (.iconst 1, 1) := by decide +kernel
theorem dX0_takeBackLatest_15 : decode cX0_takeBackLatest 15 = .ok (.isub, 1) := by decide +kernel
theorem dX0_takeBackLatest_16 : decode cX0_takeBackLatest 16 = .ok (.putfield 21, 3) := by decide +kernel
theorem dX0_takeBackLatest_19 : decode cX0_takeBackLatest 19 = .ok (.aload_n 0, 1) := by decide +kernel
theorem dX0_takeBackLatest_20 : decode cX0_takeBackLatest 20 = .ok (.getfield 15, 3) := by decide +kernel
theorem dX0_takeBackLatest_23 : decode cX0_takeBackLatest 23 = .ok (.aload_n 0, 1) := by decide +kernel
theorem dX0_takeBackLatest_24 : decode cX0_takeBackLatest 24 = .ok (.getfield 21, 3) := by decide +kernel
theorem dX0_takeBackLatest_27 : decode cX0_takeBackLatest 27 = .ok (.iaload, 1) := by decide +kernel
theorem dX0_takeBackLatest_28 : decode cX0_takeBackLatest 28 = .ok (.istore_n 2, 1) := by decide +kernel
theorem dX0_takeBackLatest_29 : decode cX0_takeBackLatest 29 = .ok (.iload_n 2, 1) := by decide +kernel
theorem dX0_takeBackLatest_30 : decode cX0_takeBackLatest 30 = .ok (.iconst 0, 1) := by decide +kernel
theorem dX0_takeBackLatest_31 : decode cX0_takeBackLatest 31 = .ok (.aload_n 1, 1) := by decide +kernel
theorem dX0_takeBackLatest_32 : decode cX0_takeBackLatest 32 = .ok (.getfield 34, 3) := by decide +kernel
theorem dX0_takeBackLatest_35 : decode cX0_takeBackLatest 35 = .ok (.iconst 1, 1) := by decide +kernel
theorem dX0_takeBackLatest_36 : decode cX0_takeBackLatest 36 = .ok (.isub, 1) := by decide +kernel
theorem dX0_takeBackLatest_37 : decode cX0_takeBackLatest 37 = .ok (.invokestatic 39, 3) := by decide +kernel
theorem dX0_takeBackLatest_40 : decode cX0_takeBackLatest 40 = .ok (.istore_n 3, 1) := by decide +kernel
theorem dX0_takeBackLatest_41 : decode cX0_takeBackLatest 41 = .ok (.aload_n 0, 1) := by decide +kernel
theorem dX0_takeBackLatest_42 : decode cX0_takeBackLatest 42 = .ok (.getfield 9, 3) := by decide +kernel
theorem dX0_takeBackLatest_45 : decode cX0_takeBackLatest 45 = .ok (.aload_n 0, 1) := by decide +kernel
theorem dX0_takeBackLatest_46 : decode cX0_takeBackLatest 46 = .ok (.getfield 21, 3) := by decide +kernel
theorem dX0_takeBackLatest_49 : decode cX0_takeBackLatest 49 = .ok (.iaload, 1) := by decide +kernel
theorem dX0_takeBackLatest_50 : decode cX0_takeBackLatest 50 = .ok (.ifCond .ne 35, 3) := by decide +kernel
theorem dX0_takeBackLatest_53 : decode cX0_takeBackLatest 53 = .ok (.aload_n 1, 1) := by decide +kernel
theorem dX0_takeBackLatest_54 : decode cX0_takeBackLatest 54 = .ok (.dup, 1) := by decide +kernel
theorem dX0_takeBackLatest_55 : decode cX0_takeBackLatest 55 = .ok (.getfield 43, 3) := by decide +kernel
theorem dX0_takeBackLatest_58 : decode cX0_takeBackLatest 58 = .ok (.iconst 1, 1) := by decide +kernel
theorem dX0_takeBackLatest_59 : decode cX0_takeBackLatest 59 = .ok (.isub, 1) := by decide +kernel
theorem dX0_takeBackLatest_60 : decode cX0_takeBackLatest 60 = .ok (.putfield 43, 3) := by decide +kernel
theorem dX0_takeBackLatest_63 : decode cX0_takeBackLatest 63 = .ok (.iload_n 3, 1) := by decide +kernel
theorem dX0_takeBackLatest_64 : decode cX0_takeBackLatest 64 = .ok (.ifCond .eq 119, 3) := by decide +kernel
theorem dX0_takeBackLatest_67 : decode cX0_takeBackLatest 67 = .ok (.aload_n 1, 1) := by decide +kernel
theorem dX0_takeBackLatest_68 : decode cX0_takeBackLatest 68 = .ok (.getfield 46, 3) := by decide +kernel
theorem dX0_takeBackLatest_71 : decode cX0_takeBackLatest 71 = .ok (.iload_n 2, 1) := by decide +kernel
theorem dX0_takeBackLatest_72 : decode cX0_takeBackLatest 72 = .ok (.aaload, 1) := by decide +kernel
theorem dX0_takeBackLatest_73 : decode cX0_takeBackLatest 73 = .ok (.dup, 1) := by decide +kernel
theorem dX0_takeBackLatest_74 : decode cX0_takeBackLatest 74 = .ok (.getfield 49, 3) := by decide +kernel
theorem dX0_takeBackLatest_77 : decode cX0_takeBackLatest 77 = .ok (.iconst 1, 1) := by decide +kernel
theorem dX0_takeBackLatest_78 : decode cX0_takeBackLatest 78 = .ok (.isub, 1) := by decide +kernel
theorem dX0_takeBackLatest_79 : decode cX0_takeBackLatest 79 = .ok (.putfield 49, 3) := by decide +kernel
theorem dX0_takeBackLatest_82 : decode cX0_takeBackLatest 82 = .ok (.goto 101, 3) := by decide +kernel
theorem dX0_takeBackLatest_85 : decode cX0_takeBackLatest 85 = .ok (.aload_n 0, 1) := by decide +kernel
theorem dX0_takeBackLatest_86 : decode cX0_takeBackLatest 86 = .ok (.getfield 9, 3) := by decide +kernel
theorem dX0_takeBackLatest_89 : decode cX0_takeBackLatest 89 = .ok (.aload_n 0, 1) := by decide +kernel
theorem dX0_takeBackLatest_90 : decode cX0_takeBackLatest 90 = .ok (.getfield 21, 3) := by decide +kernel
theorem dX0_takeBackLatest_93 : decode cX0_takeBackLatest 93 = .ok (.iaload, 1) := by decide +kernel
theorem dX0_takeBackLatest_94 : decode cX0_takeBackLatest 94 = .ok (.iconst 3, 1) := by decide +kernel
theorem dX0_takeBackLatest_95 : decode cX0_takeBackLatest 95 = .ok (.if_icmp .ne 19, 3) := by decide +kernel
theorem dX0_takeBackLatest_98 : decode cX0_takeBackLatest 98 = .ok (.aload_n 1, 1) := by decide +kernel
theorem dX0_takeBackLatest_99 : decode cX0_takeBackLatest 99 = .ok (.aload_n 0, 1) := by decide +kernel
theorem dX0_takeBackLatest_100 : decode cX0_takeBackLatest 100 = .ok (.getfield 18, 3) := by decide +kernel
theorem dX0_takeBackLatest_103 : decode cX0_takeBackLatest 103 = .ok (.aload_n 0, 1) := by decide +kernel
theorem dX0_takeBackLatest_104 : decode cX0_takeBackLatest 104 = .ok (.getfield 21, 3) := by decide +kernel
theorem dX0_takeBackLatest_107 : decode cX0_takeBackLatest 107 = .ok (.iaload, 1) := by decide +kernel
theorem dX0_takeBackLatest_108 : decode cX0_takeBackLatest 108 = .ok (.putfield 54, 3) := by decide +kernel
theorem dX0_takeBackLatest_111 : decode cX0_takeBackLatest 111 = .ok (.goto 72, 3) := by decide +kernel
theorem dX0_takeBackLatest_114 : decode cX0_takeBackLatest 114 = .ok (.aload_n 0, 1) := by decide +kernel
theorem dX0_takeBackLatest_115 : decode cX0_takeBackLatest 115 = .ok (.getfield 9, 3) := by decide +kernel
theorem dX0_takeBackLatest_118 : decode cX0_takeBackLatest 118 = .ok (.aload_n 0, 1) := by decide +kernel
theorem dX0_takeBackLatest_119 : decode cX0_takeBackLatest 119 = .ok (.getfield 21, 3) := by decide +kernel
theorem dX0_takeBackLatest_122 : decode cX0_takeBackLatest 122 = .ok (.iaload, 1) := by decide +kernel
theorem dX0_takeBackLatest_123 : decode cX0_takeBackLatest 123 = .ok (.iconst 1, 1) := by decide +kernel
theorem dX0_takeBackLatest_124 : decode cX0_takeBackLatest 124 = .ok (.if_icmp .ne 22, 3) := by decide +kernel
theorem dX0_takeBackLatest_127 : decode cX0_takeBackLatest 127 = .ok (.iload_n 3, 1) := by decide +kernel
theorem dX0_takeBackLatest_128 : decode cX0_takeBackLatest 128 = .ok (.ifCond .eq 18, 3) := by decide +kernel
theorem dX0_takeBackLatest_131 : decode cX0_takeBackLatest 131 = .ok (.aload_n 1, 1) := by decide +kernel
theorem dX0_takeBackLatest_132 : decode cX0_takeBackLatest 132 = .ok (.dup, 1) := by decide +kernel
theorem dX0_takeBackLatest_133 : decode cX0_takeBackLatest 133 = .ok (.getfield 57, 3) := by decide +kernel
theorem dX0_takeBackLatest_136 : decode cX0_takeBackLatest 136 = .ok (.iconst 1, 1) := by decide +kernel
theorem dX0_takeBackLatest_137 : decode cX0_takeBackLatest 137 = .ok (.iload_n 2, 1) := by decide +kernel
theorem dX0_takeBackLatest_138 : decode cX0_takeBackLatest 138 = .ok (.ishl, 1) := by decide +kernel
theorem dX0_takeBackLatest_139 : decode cX0_takeBackLatest 139 = .ok (.ixor, 1) := by decide +kernel
theorem dX0_takeBackLatest_140 : decode cX0_takeBackLatest 140 = .ok (.putfield 57, 3) := by decide +kernel
theorem dX0_takeBackLatest_143 : decode cX0_takeBackLatest 143 = .ok (.goto 40, 3) := by decide +kernel
theorem dX0_takeBackLatest_146 : decode cX0_takeBackLatest 146 = .ok (.iload_n 3, 1) := by decide +kernel
theorem dX0_takeBackLatest_147 : decode cX0_takeBackLatest 147 = .ok (.ifCond .eq 36, 3) := by decide +kernel
theorem dX0_takeBackLatest_150 : decode cX0_takeBackLatest 150 = .ok (.aload_n 1, 1) := by decide +kernel
theorem dX0_takeBackLatest_151 : decode cX0_takeBackLatest 151 = .ok (.getfield 46, 3) := by decide +kernel
theorem dX0_takeBackLatest_154 : decode cX0_takeBackLatest 154 = .ok (.iload_n 2, 1) := by decide +kernel
theorem dX0_takeBackLatest_155 : decode cX0_takeBackLatest 155 = .ok (.aaload, 1) := by decide +kernel
theorem dX0_takeBackLatest_156 : decode cX0_takeBackLatest 156 = .ok (.aload_n 0, 1) := by decide +kernel
theorem dX0_takeBackLatest_157 : decode cX0_takeBackLatest 157 = .ok (.getfield 18, 3) := by decide +kernel
theorem dX0_takeBackLatest_160 : decode cX0_takeBackLatest 160 = .ok (.aload_n 0, 1) := by decide +kernel
theorem dX0_takeBackLatest_161 : decode cX0_takeBackLatest 161 = .ok (.getfield 21, 3) := by decide +kernel
theorem dX0_takeBackLatest_164 : decode cX0_takeBackLatest 164 = .ok (.iaload, 1) := by decide +kernel
theorem dX0_takeBackLatest_165 : decode cX0_takeBackLatest 165 = .ok (.bipush 10, 2) := by decide +kernel
theorem dX0_takeBackLatest_167 : decode cX0_takeBackLatest 167 = .ok (.idiv, 1) := by decide +kernel
theorem dX0_takeBackLatest_168 : decode cX0_takeBackLatest 168 = .ok (.aload_n 0, 1) := by decide +kernel
theorem dX0_takeBackLatest_169 : decode cX0_takeBackLatest 169 = .ok (.getfield 18, 3) := by decide +kernel
theorem dX0_takeBackLatest_172 : decode cX0_takeBackLatest 172 = .ok (.aload_n 0, 1) := by decide +kernel
theorem dX0_takeBackLatest_173 : decode cX0_takeBackLatest 173 = .ok (.getfield 21, 3) := by decide +kernel
theorem dX0_takeBackLatest_176 : decode cX0_takeBackLatest 176 = .ok (.iaload, 1) := by decide +kernel
theorem dX0_takeBackLatest_177 : decode cX0_takeBackLatest 177 = .ok (.bipush 10, 2) := by decide +kernel
theorem dX0_takeBackLatest_179 : decode cX0_takeBackLatest 179 = .ok (.irem, 1) := by decide +kernel
theorem dX0_takeBackLatest_180 : decode cX0_takeBackLatest 180 = .ok (.invokevirtual 60, 3) := by decide +kernel
theorem dX0_takeBackLatest_183 : decode cX0_takeBackLatest 183 = .ok (.return_, 1) := by decide +kernel
theorem dX1_init_0 : decode cX1_init 0 = .ok (.aload_n 0, 1) := by decide +kernel
theorem dX1_init_1 : decode cX1_init 1 = .ok (.invokespecial 3, 3) := by decide +kernel
theorem dX1_init_4 : decode cX1_init 4 = .ok (.aload_n 0, 1) := by decide +kernel
theorem dX1_init_5 : decode cX1_init 5 = .ok (.bipush 6, 2) := by decide +kernel
theorem dX1_init_7 : decode cX1_init 7 = .ok (.anewarray 9, 3) := by decide +kernel
theorem dX1_init_10 : decode cX1_init 10 = .ok (.putfield 11, 3) := by decide +kernel
theorem dX1_init_13 : decode cX1_init 13 = .ok (.aload_n 0, 1) := by decide +kernel
theorem dX1_init_14 : decode cX1_init 14 = .ok (.new 17, 3) := by decide +kernel
theorem dX1_init_17 : decode cX1_init 17 = .ok (.dup, 1) := by decide +kernel
theorem dX1_init_18 : decode cX1_init 18 = .ok (.invokespecial 19, 3) := by decide +kernel
theorem dX1_init_21 : decode cX1_init 21 = .ok (.putfield 20, 3) := by decide +kernel
theorem dX1_init_24 : decode cX1_init 24 = .ok (.iconst 0, 1) := by decide +kernel
theorem dX1_init_25 : decode cX1_init 25 = .ok (.istore_n 1, 1) := by decide +kernel
theorem dX1_init_26 : decode cX1_init 26 = .ok (.iload_n 1, 1) := by decide +kernel
theorem dX1_init_27 : decode cX1_init 27 = .ok (.bipush 6, 2) := by decide +kernel
theorem dX1_init_29 : decode cX1_init 29 = .ok (.if_icmp .ge 22, 3) := by decide +kernel
theorem dX1_init_32 : decode cX1_init 32 = .ok (.aload_n 0, 1) := by decide +kernel
theorem dX1_init_33 : decode cX1_init 33 = .ok (.getfield 11, 3) := by decide +kernel
theorem dX1_init_36 : decode cX1_init 36 = .ok (.iload_n 1, 1) := by decide +kernel
theorem dX1_init_37 : decode cX1_init 37 = .ok (.new 9, 3) := by decide +kernel
theorem dX1_init_40 : decode cX1_init 40 = .ok (.dup, 1) := by decide +kernel
theorem dX1_init_41 : decode cX1_init 41 = .ok (.invokespecial 24, 3) := by decide +kernel
theorem dX1_init_44 : decode cX1_init 44 = .ok (.aastore, 1) := by decide +kernel
theorem dX1_init_45 : decode cX1_init 45 = .ok (.iinc 1 1, 3) := by decide +kernel
theorem dX1_init_48 : decode cX1_init 48 = .ok (.goto (-22), 3) := by decide +kernel
theorem dX1_init_51 : decode cX1_init 51 = .ok (.return_, 1) := by decide +kernel
theorem dX1_become_0 : decode cX1_become 0 = .ok (.aload_n 0, 1) := by decide +kernel
theorem dX1_become_1 : decode cX1_become 1 = .ok (.aload_n 1, 1) := by decide +kernel
theorem dX1_become_2 : decode cX1_become 2 = .ok (.getfield 25, 3) := by decide +kernel
theorem dX1_become_5 : decode cX1_become 5 = .ok (.putfield 25, 3) := by decide +kernel
theorem dX1_become_8 : decode cX1_become 8 = .ok (.aload_n 0, 1) := by decide +kernel
theorem dX1_become_9 : decode cX1_become 9 = .ok (.aload_n 1, 1) := by decide +kernel
theorem dX1_become_10 : decode cX1_become 10 = .ok (.getfield 29, 3) := by decide +kernel
theorem dX1_become_13 : decode cX1_become 13 = .ok (.putfield 29, 3) := by decide +kernel
theorem dX1_become_16 : decode cX1_become 16 = .ok (.aload_n 0, 1) := by decide +kernel
theorem dX1_become_17 : decode cX1_become 17 = .ok (.aload_n 1, 1) := by decide +kernel
theorem dX1_become_18 : decode cX1_become 18 = .ok (.getfield 33, 3) := by decide +kernel
theorem dX1_become_21 : decode cX1_become 21 = .ok (.putfield 33, 3) := by decide +kernel
theorem dX1_become_24 : decode cX1_become 24 = .ok (.aload_n 0, 1) := by decide +kernel
theorem dX1_become_25 : decode cX1_become 25 = .ok (.aload_n 1, 1) := by decide +kernel
theorem dX1_become_26 : decode cX1_become 26 = .ok (.getfield 36, 3) := by decide +kernel
theorem dX1_become_29 : decode cX1_become 29 = .ok (.putfield 36, 3) := by decide +kernel
theorem dX1_become_32 : decode cX1_become 32 = .ok (.aload_n 0, 1) := by decide +kernel
theorem dX1_become_33 : decode cX1_become 33 = .ok (.aload_n 1, 1) := by decide +kernel
theorem dX1_become_34 : decode cX1_become 34 = .ok (.getfield 39, 3) := by decide +kernel
theorem dX1_become_37 : decode cX1_become 37 = .ok (.putfield 39, 3) := by decide +kernel
theorem dX1_become_40 : decode cX1_become 40 = .ok (.aload_n 0, 1) := by decide +kernel
theorem dX1_become_41 : decode cX1_become 41 = .ok (.aload_n 1, 1) := by decide +kernel
theorem dX1_become_42 : decode cX1_become 42 = .ok (.getfield 42, 3) := by decide +kernel
theorem dX1_become_45 : decode cX1_become 45 = .ok (.putfield 42, 3) := by decide +kernel
theorem dX1_become_48 : decode cX1_become 48 = .ok (.aload_n 0, 1) := by decide +kernel
theorem dX1_become_49 : decode cX1_become 49 = .ok (.aload_n 1, 1) := by decide +kernel
theorem dX1_become_50 : decode cX1_become 50 = .ok (.getfield 45, 3) := by decide +kernel
theorem dX1_become_53 : decode cX1_become 53 = .ok (.putfield 45, 3) := by decide +kernel
theorem dX1_become_56 : decode cX1_become 56 = .ok (.aload_n 0, 1) := by decide +kernel
theorem dX1_become_57 : decode cX1_become 57 = .ok (.aload_n 1, 1) := by decide +kernel
theorem dX1_become_58 : decode cX1_become 58 = .ok (.getfield 48, 3) := by decide +kernel
theorem dX1_become_61 : decode cX1_become 61 = .ok (.putfield 48, 3) := by decide +kernel
theorem dX1_become_64 : decode cX1_become 64 = .ok (.aload_n 0, 1) := by decide +kernel
theorem dX1_become_65 : decode cX1_become 65 = .ok (.aload_n 1, 1) := by decide +kernel
theorem dX1_become_66 : decode cX1_become 66 = .ok (.getfield 51, 3) := by decide +kernel
theorem dX1_become_69 : decode cX1_become 69 = .ok (.putfield 51, 3) := by decide +kernel
theorem dX1_become_72 : decode cX1_become 72 = .ok (.aload_n 0, 1) := by decide +kernel
theorem dX1_become_73 : decode cX1_become 73 = .ok (.aload_n 1, 1) := by decide +kernel
theorem dX1_become_74 : decode cX1_become 74 = .ok (.getfield 54, 3) := by decide +kernel
theorem dX1_become_77 : decode cX1_become 77 = .ok (.putfield 54, 3) := by decide +kernel
theorem dX1_become_80 : decode cX1_become 80 = .ok (.iconst 0, 1) := by decide +kernel
theorem dX1_become_81 : decode cX1_become 81 = .ok (.istore_n 2, 1) := by decide +kernel
theorem dX1_become_82 : decode cX1_become 82 = .ok (.iload_n 2, 1) := by decide +kernel
theorem dX1_become_83 : decode cX1_become 83 = .ok (.bipush 6, 2) := by decide +kernel
theorem dX1_become_85 : decode cX1_become 85 = .ok (.if_icmp .ge 24, 3) := by decide +kernel
theorem dX1_become_88 : decode cX1_become 88 = .ok (.aload_n 0, 1) := by decide +kernel
theorem dX1_become_89 : decode cX1_become 89 = .ok (.getfield 11, 3) := by decide +kernel
theorem dX1_become_92 : decode cX1_become 92 = .ok (.iload_n 2, 1) := by decide +kernel
theorem dX1_become_93 : decode cX1_become 93 = .ok (.aaload, 1) := by decide +kernel
theorem dX1_become_94 : decode cX1_become 94 = .ok (.aload_n 1, 1) := by decide +kernel
theorem dX1_become_95 : decode cX1_become 95 = .ok (.getfield 11, 3) := by decide +kernel
theorem dX1_become_98 : decode cX1_become 98 = .ok (.iload_n 2, 1) := by decide +kernel
theorem dX1_become_99 : decode cX1_become 99 = .ok (.aaload, 1) := by decide +kernel
theorem dX1_become_100 : decode cX1_become 100 = .ok (.invokevirtual 57, 3) := by decide +kernel
theorem dX1_become_103 : decode cX1_become 103 = .ok (.iinc 2 1, 3) := by decide +kernel
theorem dX1_become_106 : decode cX1_become 106 = .ok (.goto (-24), 3) := by decide +kernel
theorem dX1_become_109 : decode cX1_become 109 = .ok (.return_, 1) := by decide +kernel
theorem dX1_clear_0 : decode cX1_clear 0 = .ok (.aload_n 0, 1) := by decide +kernel
theorem dX1_clear_1 : decode cX1_clear 1 = .ok (.iconst 0, 1) := by decide +kernel
theorem dX1_clear_2 : decode cX1_clear 2 = .ok (.putfield 25, 3) := by decide +kernel
theorem dX1_clear_5 : decode cX1_clear 5 = .ok (.aload_n 0, 1) := by decide +kernel
theorem dX1_clear_6 : decode cX1_clear 6 = .ok (.iconst 0, 1) := by decide +kernel
theorem dX1_clear_7 : decode cX1_clear 7 = .ok (.putfield 48, 3) := by decide +kernel
theorem dX1_clear_10 : decode cX1_clear 10 = .ok (.aload_n 0, 1) := by decide +kernel
theorem dX1_clear_11 : decode cX1_clear 11 = .ok (.iconst 0, 1) := by decide +kernel
theorem dX1_clear_12 : decode cX1_clear 12 = .ok (.putfield 51, 3) := by decide +kernel
theorem dX1_clear_15 : decode cX1_clear 15 = .ok (.aload_n 0, 1) := by decide +kernel
theorem dX1_clear_16 : decode cX1_clear 16 = .ok (.iconst 0, 1) := by decide +kernel
theorem dX1_clear_17 : decode cX1_clear 17 = .ok (.putfield 54, 3) := by decide +kernel
theorem dX1_clear_20 : decode cX1_clear 20 = .ok (.return_, 1) := by decide +kernel
theorem dX1_putLaw_0 : decode cX1_putLaw 0 = .ok (.iload_n 1, 1) := by decide +kernel
theorem dX1_putLaw_1 : decode cX1_putLaw 1 = .ok (.tableswitch 75 0 4 #[35, 43, 51, 59, 67], 35) := by decide +kernel
theorem dX1_putLaw_36 : decode cX1_putLaw 36 = .ok (.aload_n 0, 1) := by decide +kernel
theorem dX1_putLaw_37 : decode cX1_putLaw 37 = .ok (.iload_n 2, 1) := by decide +kernel
theorem dX1_putLaw_38 : decode cX1_putLaw 38 = .ok (.putfield 29, 3) := by decide +kernel
theorem dX1_putLaw_41 : decode cX1_putLaw 41 = .ok (.goto 40, 3) := by decide +kernel
theorem dX1_putLaw_44 : decode cX1_putLaw 44 = .ok (.aload_n 0, 1) := by decide +kernel
theorem dX1_putLaw_45 : decode cX1_putLaw 45 = .ok (.iload_n 2, 1) := by decide +kernel
theorem dX1_putLaw_46 : decode cX1_putLaw 46 = .ok (.putfield 33, 3) := by decide +kernel
theorem dX1_putLaw_49 : decode cX1_putLaw 49 = .ok (.goto 32, 3) := by decide +kernel
theorem dX1_putLaw_52 : decode cX1_putLaw 52 = .ok (.aload_n 0, 1) := by decide +kernel
theorem dX1_putLaw_53 : decode cX1_putLaw 53 = .ok (.iload_n 2, 1) := by decide +kernel
theorem dX1_putLaw_54 : decode cX1_putLaw 54 = .ok (.putfield 36, 3) := by decide +kernel
theorem dX1_putLaw_57 : decode cX1_putLaw 57 = .ok (.goto 24, 3) := by decide +kernel
theorem dX1_putLaw_60 : decode cX1_putLaw 60 = .ok (.aload_n 0, 1) := by decide +kernel
theorem dX1_putLaw_61 : decode cX1_putLaw 61 = .ok (.iload_n 2, 1) := by decide +kernel
theorem dX1_putLaw_62 : decode cX1_putLaw 62 = .ok (.putfield 39, 3) := by decide +kernel
theorem dX1_putLaw_65 : decode cX1_putLaw 65 = .ok (.goto 16, 3) := by decide +kernel
theorem dX1_putLaw_68 : decode cX1_putLaw 68 = .ok (.aload_n 0, 1) := by decide +kernel
theorem dX1_putLaw_69 : decode cX1_putLaw 69 = .ok (.iload_n 2, 1) := by decide +kernel
theorem dX1_putLaw_70 : decode cX1_putLaw 70 = .ok (.putfield 42, 3) := by decide +kernel
theorem dX1_putLaw_73 : decode cX1_putLaw 73 = .ok (.goto 8, 3) := by decide +kernel
theorem dX1_putLaw_76 : decode cX1_putLaw 76 = .ok (.aload_n 0, 1) := by decide +kernel
theorem dX1_putLaw_77 : decode cX1_putLaw 77 = .ok (.iload_n 2, 1) := by decide +kernel
theorem dX1_putLaw_78 : decode cX1_putLaw 78 = .ok (.putfield 45, 3) := by decide +kernel
theorem dX1_putLaw_81 : decode cX1_putLaw 81 = .ok (.return_, 1) := by decide +kernel
theorem dX1_addHouse_0 : decode cX1_addHouse 0 = .ok (.aload_n 0, 1) := by decide +kernel
theorem dX1_addHouse_1 : decode cX1_addHouse 1 = .ok (.getfield 51, 3) := by decide +kernel
theorem dX1_addHouse_4 : decode cX1_addHouse 4 = .ok (.bipush 6, 2) := by decide +kernel
theorem dX1_addHouse_6 : decode cX1_addHouse 6 = .ok (.if_icmp .lt 4, 3) := by decide +kernel
theorem dX1_addHouse_9 : decode cX1_addHouse 9 = .ok (.return_, 1) := by decide +kernel
theorem dX1_addHouse_10 : decode cX1_addHouse 10 = .ok (.aload_n 0, 1) := by decide +kernel
theorem dX1_addHouse_11 : decode cX1_addHouse 11 = .ok (.getfield 11, 3) := by decide +kernel
theorem dX1_addHouse_14 : decode cX1_addHouse 14 = .ok (.aload_n 0, 1) := by decide +kernel
theorem dX1_addHouse_15 : decode cX1_addHouse 15 = .ok (.getfield 51, 3) := by decide +kernel
theorem dX1_addHouse_18 : decode cX1_addHouse 18 = .ok (.aaload, 1) := by decide +kernel
theorem dX1_addHouse_19 : decode cX1_addHouse 19 = .ok (.astore 5, 2) := by decide +kernel
theorem dX1_addHouse_21 : decode cX1_addHouse 21 = .ok (.aload 5, 2) := by decide +kernel
theorem dX1_addHouse_23 : decode cX1_addHouse 23 = .ok (.iload_n 1, 1) := by decide +kernel
theorem dX1_addHouse_24 : decode cX1_addHouse 24 = .ok (.putfield 61, 3) := by decide +kernel
theorem dX1_addHouse_27 : decode cX1_addHouse 27 = .ok (.aload 5, 2) := by decide +kernel
theorem dX1_addHouse_29 : decode cX1_addHouse 29 = .ok (.iload_n 2, 1) := by decide +kernel
theorem dX1_addHouse_30 : decode cX1_addHouse 30 = .ok (.iload_n 3, 1) := by decide +kernel
theorem dX1_addHouse_31 : decode cX1_addHouse 31 = .ok (.invokevirtual 64, 3) := by decide +kernel
theorem dX1_addHouse_34 : decode cX1_addHouse 34 = .ok (.aload 5, 2) := by decide +kernel
theorem dX1_addHouse_36 : decode cX1_addHouse 36 = .ok (.iload 4, 2) := by decide +kernel
theorem dX1_addHouse_38 : decode cX1_addHouse 38 = .ok (.putfield 68, 3) := by decide +kernel
theorem dX1_addHouse_41 : decode cX1_addHouse 41 = .ok (.aload 5, 2) := by decide +kernel
theorem dX1_addHouse_43 : decode cX1_addHouse 43 = .ok (.iconst 0, 1) := by decide +kernel
theorem dX1_addHouse_44 : decode cX1_addHouse 44 = .ok (.putfield 71, 3) := by decide +kernel
theorem dX1_addHouse_47 : decode cX1_addHouse 47 = .ok (.aload_n 0, 1) := by decide +kernel
theorem dX1_addHouse_48 : decode cX1_addHouse 48 = .ok (.dup, 1) := by decide +kernel
theorem dX1_addHouse_49 : decode cX1_addHouse 49 = .ok (.getfield 54, 3) := by decide +kernel
theorem dX1_addHouse_52 : decode cX1_addHouse 52 = .ok (.iconst 1, 1) := by decide +kernel
theorem dX1_addHouse_53 : decode cX1_addHouse 53 = .ok (.aload_n 0, 1) := by decide +kernel
theorem dX1_addHouse_54 : decode cX1_addHouse 54 = .ok (.getfield 51, 3) := by decide +kernel
theorem dX1_addHouse_57 : decode cX1_addHouse 57 = .ok (.ishl, 1) := by decide +kernel
theorem dX1_addHouse_58 : decode cX1_addHouse 58 = .ok (.ior, 1) := by decide +kernel
theorem dX1_addHouse_59 : decode cX1_addHouse 59 = .ok (.putfield 54, 3) := by decide +kernel
theorem dX1_addHouse_62 : decode cX1_addHouse 62 = .ok (.aload_n 0, 1) := by decide +kernel
theorem dX1_addHouse_63 : decode cX1_addHouse 63 = .ok (.dup, 1) := by decide +kernel
theorem dX1_addHouse_64 : decode cX1_addHouse 64 = .ok (.getfield 51, 3) := by decide +kernel
theorem dX1_addHouse_67 : decode cX1_addHouse 67 = .ok (.iconst 1, 1) := by decide +kernel
theorem dX1_addHouse_68 : decode cX1_addHouse 68 = .ok (.iadd, 1) := by decide +kernel
theorem dX1_addHouse_69 : decode cX1_addHouse 69 = .ok (.putfield 51, 3) := by decide +kernel
theorem dX1_addHouse_72 : decode cX1_addHouse 72 = .ok (.return_, 1) := by decide +kernel
theorem dX1_allHouses_0 : decode cX1_allHouses 0 = .ok (.iconst 1, 1) := by decide +kernel
theorem dX1_allHouses_1 : decode cX1_allHouses 1 = .ok (.aload_n 0, 1) := by decide +kernel
theorem dX1_allHouses_2 : decode cX1_allHouses 2 = .ok (.getfield 51, 3) := by decide +kernel
theorem dX1_allHouses_5 : decode cX1_allHouses 5 = .ok (.ishl, 1) := by decide +kernel
theorem dX1_allHouses_6 : decode cX1_allHouses 6 = .ok (.iconst 1, 1) := by decide +kernel
theorem dX1_allHouses_7 : decode cX1_allHouses 7 = .ok (.isub, 1) := by decide +kernel
theorem dX1_allHouses_8 : decode cX1_allHouses 8 = .ok (.ireturn, 1) := by decide +kernel
theorem dX1_openness_0 : decode cX1_openness 0 = .ok (.aload_n 0, 1) := by decide +kernel
theorem dX1_openness_1 : decode cX1_openness 1 = .ok (.getfield 54, 3) := by decide +kernel
theorem dX1_openness_4 : decode cX1_openness 4 = .ok (.iload_n 1, 1) := by decide +kernel
theorem dX1_openness_5 : decode cX1_openness 5 = .ok (.ishr, 1) := by decide +kernel
theorem dX1_openness_6 : decode cX1_openness 6 = .ok (.iconst 1, 1) := by decide +kernel
theorem dX1_openness_7 : decode cX1_openness 7 = .ok (.iand, 1) := by decide +kernel
theorem dX1_openness_8 : decode cX1_openness 8 = .ok (.ireturn, 1) := by decide +kernel
theorem dX1_standing_0 : decode cX1_standing 0 = .ok (.iconst 0, 1) := by decide +kernel
theorem dX1_standing_1 : decode cX1_standing 1 = .ok (.istore_n 3, 1) := by decide +kernel
theorem dX1_standing_2 : decode cX1_standing 2 = .ok (.iload_n 3, 1) := by decide +kernel
theorem dX1_standing_3 : decode cX1_standing 3 = .ok (.aload_n 0, 1) := by decide +kernel
theorem dX1_standing_4 : decode cX1_standing 4 = .ok (.getfield 51, 3) := by decide +kernel
theorem dX1_standing_7 : decode cX1_standing 7 = .ok (.if_icmp .ge 37, 3) := by decide +kernel
theorem dX1_standing_10 : decode cX1_standing 10 = .ok (.aload_n 0, 1) := by decide +kernel
theorem dX1_standing_11 : decode cX1_standing 11 = .ok (.getfield 11, 3) := by decide +kernel
theorem dX1_standing_14 : decode cX1_standing 14 = .ok (.iload_n 3, 1) := by decide +kernel
theorem dX1_standing_15 : decode cX1_standing 15 = .ok (.aaload, 1) := by decide +kernel
theorem dX1_standing_16 : decode cX1_standing 16 = .ok (.getfield 74, 3) := by decide +kernel
theorem dX1_standing_19 : decode cX1_standing 19 = .ok (.iload_n 1, 1) := by decide +kernel
theorem dX1_standing_20 : decode cX1_standing 20 = .ok (.if_icmp .ne 18, 3) := by decide +kernel
theorem dX1_standing_23 : decode cX1_standing 23 = .ok (.aload_n 0, 1) := by decide +kernel
theorem dX1_standing_24 : decode cX1_standing 24 = .ok (.getfield 11, 3) := by decide +kernel
theorem dX1_standing_27 : decode cX1_standing 27 = .ok (.iload_n 3, 1) := by decide +kernel
theorem dX1_standing_28 : decode cX1_standing 28 = .ok (.aaload, 1) := by decide +kernel
theorem dX1_standing_29 : decode cX1_standing 29 = .ok (.getfield 77, 3) := by decide +kernel
theorem dX1_standing_32 : decode cX1_standing 32 = .ok (.iload_n 2, 1) := by decide +kernel
theorem dX1_standing_33 : decode cX1_standing 33 = .ok (.if_icmp .ne 5, 3) := by decide +kernel
theorem dX1_standing_36 : decode cX1_standing 36 = .ok (.iload_n 3, 1) := by decide +kernel
theorem dX1_standing_37 : decode cX1_standing 37 = .ok (.ireturn, 1) := by decide +kernel
theorem dX1_standing_38 : decode cX1_standing 38 = .ok (.iinc 3 1, 3) := by decide +kernel
theorem dX1_standing_41 : decode cX1_standing 41 = .ok (.goto (-39), 3) := by decide +kernel
theorem dX1_standing_44 : decode cX1_standing 44 = .ok (.iconst (-1), 1) := by decide +kernel
theorem dX1_standing_45 : decode cX1_standing 45 = .ok (.ireturn, 1) := by decide +kernel
theorem dX1_topLine_0 : decode cX1_topLine 0 = .ok (.aload_n 0, 1) := by decide +kernel
theorem dX1_topLine_1 : decode cX1_topLine 1 = .ok (.getfield 33, 3) := by decide +kernel
theorem dX1_topLine_4 : decode cX1_topLine 4 = .ok (.aload_n 0, 1) := by decide +kernel
theorem dX1_topLine_5 : decode cX1_topLine 5 = .ok (.getfield 36, 3) := by decide +kernel
theorem dX1_topLine_8 : decode cX1_topLine 8 = .ok (.aload_n 0, 1) := by decide +kernel
theorem dX1_topLine_9 : decode cX1_topLine 9 = .ok (.getfield 48, 3) := by decide +kernel
theorem dX1_topLine_12 : decode cX1_topLine 12 = .ok (.iload_n 1, 1) := by decide +kernel
theorem dX1_topLine_13 : decode cX1_topLine 13 = .ok (.iadd, 1) := by decide +kernel
theorem dX1_topLine_14 : decode cX1_topLine 14 = .ok (.imul, 1) := by decide +kernel
theorem dX1_topLine_15 : decode cX1_topLine 15 = .ok (.iadd, 1) := by decide +kernel
theorem dX1_topLine_16 : decode cX1_topLine 16 = .ok (.bipush 7, 2) := by decide +kernel
theorem dX1_topLine_18 : decode cX1_topLine 18 = .ok (.irem, 1) := by decide +kernel
theorem dX1_topLine_19 : decode cX1_topLine 19 = .ok (.ireturn, 1) := by decide +kernel
theorem dX1_restIn_0 : decode cX1_restIn 0 = .ok (.aload_n 0, 1) := by decide +kernel
theorem dX1_restIn_1 : decode cX1_restIn 1 = .ok (.aload_n 0, 1) := by decide +kernel
theorem dX1_restIn_2 : decode cX1_restIn 2 = .ok (.iload_n 1, 1) := by decide +kernel
theorem dX1_restIn_3 : decode cX1_restIn 3 = .ok (.invokevirtual 80, 3) := by decide +kernel
theorem dX1_restIn_6 : decode cX1_restIn 6 = .ok (.invokevirtual 84, 3) := by decide +kernel
theorem dX1_restIn_9 : decode cX1_restIn 9 = .ok (.ireturn, 1) := by decide +kernel
theorem dX1_letGo_0 : decode cX1_letGo 0 = .ok (.aload_n 0, 1) := by decide +kernel
theorem dX1_letGo_1 : decode cX1_letGo 1 = .ok (.getfield 20, 3) := by decide +kernel
theorem dX1_letGo_4 : decode cX1_letGo 4 = .ok (.iload_n 1, 1) := by decide +kernel
theorem dX1_letGo_5 : decode cX1_letGo 5 = .ok (.aload_n 0, 1) := by decide +kernel
theorem dX1_letGo_6 : decode cX1_letGo 6 = .ok (.getfield 39, 3) := by decide +kernel
theorem dX1_letGo_9 : decode cX1_letGo 9 = .ok (.invokevirtual 87, 3) := by decide +kernel
theorem dX1_letGo_12 : decode cX1_letGo 12 = .ok (.iconst 1, 1) := by decide +kernel
theorem dX1_letGo_13 : decode cX1_letGo 13 = .ok (.istore_n 2, 1) := by decide +kernel
theorem dX1_letGo_14 : decode cX1_letGo 14 = .ok (.iload_n 2, 1) := by decide +kernel
theorem dX1_letGo_15 : decode cX1_letGo 15 = .ok (.aload_n 0, 1) := by decide +kernel
theorem dX1_letGo_16 : decode cX1_letGo 16 = .ok (.getfield 29, 3) := by decide +kernel
theorem dX1_letGo_19 : decode cX1_letGo 19 = .ok (.if_icmp .gt 79, 3) := by decide +kernel
theorem dX1_letGo_22 : decode cX1_letGo 22 = .ok (.aload_n 0, 1) := by decide +kernel
theorem dX1_letGo_23 : decode cX1_letGo 23 = .ok (.getfield 20, 3) := by decide +kernel
theorem dX1_letGo_26 : decode cX1_letGo 26 = .ok (.getfield 90, 3) := by decide +kernel
theorem dX1_letGo_29 : decode cX1_letGo 29 = .ok (.ifCond .ne 69, 3) := by decide +kernel
theorem dX1_letGo_32 : decode cX1_letGo 32 = .ok (.aload_n 0, 1) := by decide +kernel
theorem dX1_letGo_33 : decode cX1_letGo 33 = .ok (.getfield 45, 3) := by decide +kernel
theorem dX1_letGo_36 : decode cX1_letGo 36 = .ok (.ifCond .le 25, 3) := by decide +kernel
theorem dX1_letGo_39 : decode cX1_letGo 39 = .ok (.iload_n 2, 1) := by decide +kernel
theorem dX1_letGo_40 : decode cX1_letGo 40 = .ok (.aload_n 0, 1) := by decide +kernel
theorem dX1_letGo_41 : decode cX1_letGo 41 = .ok (.getfield 45, 3) := by decide +kernel
theorem dX1_letGo_44 : decode cX1_letGo 44 = .ok (.irem, 1) := by decide +kernel
theorem dX1_letGo_45 : decode cX1_letGo 45 = .ok (.ifCond .ne 16, 3) := by decide +kernel
theorem dX1_letGo_48 : decode cX1_letGo 48 = .ok (.aload_n 0, 1) := by decide +kernel
theorem dX1_letGo_49 : decode cX1_letGo 49 = .ok (.getfield 20, 3) := by decide +kernel
theorem dX1_letGo_52 : decode cX1_letGo 52 = .ok (.aload_n 0, 1) := by decide +kernel
theorem dX1_letGo_53 : decode cX1_letGo 53 = .ok (.getfield 42, 3) := by decide +kernel
theorem dX1_letGo_56 : decode cX1_letGo 56 = .ok (.iconst 1, 1) := by decide +kernel
theorem dX1_letGo_57 : decode cX1_letGo 57 = .ok (.isub, 1) := by decide +kernel
theorem dX1_letGo_58 : decode cX1_letGo 58 = .ok (.invokevirtual 93, 3) := by decide +kernel
theorem dX1_letGo_61 : decode cX1_letGo 61 = .ok (.aload_n 0, 1) := by decide +kernel
theorem dX1_letGo_62 : decode cX1_letGo 62 = .ok (.iload_n 2, 1) := by decide +kernel
theorem dX1_letGo_63 : decode cX1_letGo 63 = .ok (.aload_n 0, 1) := by decide +kernel
theorem dX1_letGo_64 : decode cX1_letGo 64 = .ok (.getfield 20, 3) := by decide +kernel
theorem dX1_letGo_67 : decode cX1_letGo 67 = .ok (.getfield 97, 3) := by decide +kernel
theorem dX1_letGo_70 : decode cX1_letGo 70 = .ok (.invokevirtual 98, 3) := by decide +kernel
theorem dX1_letGo_73 : decode cX1_letGo 73 = .ok (.istore_n 3, 1) := by decide +kernel
theorem dX1_letGo_74 : decode cX1_letGo 74 = .ok (.iload_n 3, 1) := by decide +kernel
theorem dX1_letGo_75 : decode cX1_letGo 75 = .ok (.ifCond .lt 9, 3) := by decide +kernel
theorem dX1_letGo_78 : decode cX1_letGo 78 = .ok (.aload_n 0, 1) := by decide +kernel
theorem dX1_letGo_79 : decode cX1_letGo 79 = .ok (.iload_n 3, 1) := by decide +kernel
theorem dX1_letGo_80 : decode cX1_letGo 80 = .ok (.iload_n 2, 1) := by decide +kernel
theorem dX1_letGo_81 : decode cX1_letGo 81 = .ok (.invokevirtual 102, 3) := by decide +kernel
theorem dX1_letGo_84 : decode cX1_letGo 84 = .ok (.aload_n 0, 1) := by decide +kernel
theorem dX1_letGo_85 : decode cX1_letGo 85 = .ok (.getfield 20, 3) := by decide +kernel
theorem dX1_letGo_88 : decode cX1_letGo 88 = .ok (.iload_n 2, 1) := by decide +kernel
theorem dX1_letGo_89 : decode cX1_letGo 89 = .ok (.invokevirtual 105, 3) := by decide +kernel
theorem dX1_letGo_92 : decode cX1_letGo 92 = .ok (.iinc 2 1, 3) := by decide +kernel
theorem dX1_letGo_95 : decode cX1_letGo 95 = .ok (.goto (-81), 3) := by decide +kernel
theorem dX1_letGo_98 : decode cX1_letGo 98 = .ok (.aload_n 0, 1) := by decide +kernel
theorem dX1_letGo_99 : decode cX1_letGo 99 = .ok (.getfield 20, 3) := by decide +kernel
theorem dX1_letGo_102 : decode cX1_letGo 102 = .ok (.getfield 108, 3) := by decide +kernel
theorem dX1_letGo_105 : decode cX1_letGo 105 = .ok (.ireturn, 1) := by decide +kernel
theorem dX1_meet_0 : decode cX1_meet 0 = .ok (.aload_n 0, 1) := by decide +kernel
theorem dX1_meet_1 : decode cX1_meet 1 = .ok (.getfield 11, 3) := by decide +kernel
theorem dX1_meet_4 : decode cX1_meet 4 = .ok (.iload_n 1, 1) := by decide +kernel
theorem dX1_meet_5 : decode cX1_meet 5 = .ok (.aaload, 1) := by decide +kernel
theorem dX1_meet_6 : decode cX1_meet 6 = .ok (.getfield 61, 3) := by decide +kernel
theorem dX1_meet_9 : decode cX1_meet 9 = .ok (.istore_n 3, 1) := by decide +kernel
theorem dX1_meet_10 : decode cX1_meet 10 = .ok (.aload_n 0, 1) := by decide +kernel
theorem dX1_meet_11 : decode cX1_meet 11 = .ok (.iload_n 1, 1) := by decide +kernel
theorem dX1_meet_12 : decode cX1_meet 12 = .ok (.invokevirtual 111, 3) := by decide +kernel
theorem dX1_meet_15 : decode cX1_meet 15 = .ok (.ifCond .ne 7, 3) := by decide +kernel
theorem dX1_meet_18 : decode cX1_meet 18 = .ok (.iconst 1, 1) := by decide +kernel
theorem dX1_meet_19 : decode cX1_meet 19 = .ok (.goto 4, 3) := by decide +kernel
theorem dX1_meet_22 : decode cX1_meet 22 = .ok (.iconst 0, 1) := by decide +kernel
theorem dX1_meet_23 : decode cX1_meet 23 = .ok (.istore 4, 2) := by decide +kernel
theorem dX1_meet_25 : decode cX1_meet 25 = .ok (.iload_n 3, 1) := by decide +kernel
theorem dX1_meet_26 : decode cX1_meet 26 = .ok (.iconst 4, 1) := by decide +kernel
theorem dX1_meet_27 : decode cX1_meet 27 = .ok (.if_icmp .eq 8, 3) := by decide +kernel
theorem dX1_meet_30 : decode cX1_meet 30 = .ok (.iload_n 3, 1) := by decide +kernel
theorem dX1_meet_31 : decode cX1_meet 31 = .ok (.iconst 5, 1) := by decide +kernel
theorem dX1_meet_32 : decode cX1_meet 32 = .ok (.if_icmp .ne 36, 3) := by decide +kernel
theorem dX1_meet_35 : decode cX1_meet 35 = .ok (.aload_n 0, 1) := by decide +kernel
theorem dX1_meet_36 : decode cX1_meet 36 = .ok (.getfield 20, 3) := by decide +kernel
theorem dX1_meet_39 : decode cX1_meet 39 = .ok (.dup, 1) := by decide +kernel
theorem dX1_meet_40 : decode cX1_meet 40 = .ok (.getfield 114, 3) := by decide +kernel
theorem dX1_meet_43 : decode cX1_meet 43 = .ok (.iconst 1, 1) := by decide +kernel
theorem dX1_meet_44 : decode cX1_meet 44 = .ok (.isub, 1) := by decide +kernel
theorem dX1_meet_45 : decode cX1_meet 45 = .ok (.putfield 114, 3) := by decide +kernel
theorem dX1_meet_48 : decode cX1_meet 48 = .ok (.aload_n 0, 1) := by decide +kernel
theorem dX1_meet_49 : decode cX1_meet 49 = .ok (.getfield 20, 3) := by decide +kernel
theorem dX1_meet_52 : decode cX1_meet 52 = .ok (.iload_n 3, 1) := by decide +kernel
theorem dX1_meet_53 : decode cX1_meet 53 = .ok (.iconst 4, 1) := by decide +kernel
theorem dX1_meet_54 : decode cX1_meet 54 = .ok (.if_icmp .ne 7, 3) := by decide +kernel
theorem dX1_meet_57 : decode cX1_meet 57 = .ok (.iconst (-1), 1) := by decide +kernel
theorem dX1_meet_58 : decode cX1_meet 58 = .ok (.goto 4, 3) := by decide +kernel
theorem dX1_meet_61 : decode cX1_meet 61 = .ok (.iconst 1, 1) := by decide +kernel
theorem dX1_meet_62 : decode cX1_meet 62 = .ok (.invokevirtual 93, 3) := by decide +kernel
theorem dX1_meet_65 : decode cX1_meet 65 = .ok (.goto 81, 3) := by decide +kernel
theorem dX1_meet_68 : decode cX1_meet 68 = .ok (.iload_n 3, 1) := by decide +kernel
theorem dX1_meet_69 : decode cX1_meet 69 = .ok (.iconst 3, 1) := by decide +kernel
theorem dX1_meet_70 : decode cX1_meet 70 = .ok (.if_icmp .eq 13, 3) := by decide +kernel
theorem dX1_meet_73 : decode cX1_meet 73 = .ok (.iload_n 3, 1) := by decide +kernel
theorem dX1_meet_74 : decode cX1_meet 74 = .ok (.iconst 1, 1) := by decide +kernel
theorem dX1_meet_75 : decode cX1_meet 75 = .ok (.if_icmp .ne 19, 3) := by decide +kernel
theorem dX1_meet_78 : decode cX1_meet 78 = .ok (.iload 4, 2) := by decide +kernel
theorem dX1_meet_80 : decode cX1_meet 80 = .ok (.ifCond .ne 14, 3) := by decide +kernel
theorem dX1_meet_83 : decode cX1_meet 83 = .ok (.aload_n 0, 1) := by decide +kernel
theorem dX1_meet_84 : decode cX1_meet 84 = .ok (.getfield 20, 3) := by decide +kernel
theorem dX1_meet_87 : decode cX1_meet 87 = .ok (.iload_n 1, 1) := by decide +kernel
theorem dX1_meet_88 : decode cX1_meet 88 = .ok (.invokevirtual 115, 3) := by decide +kernel
theorem dX1_meet_91 : decode cX1_meet 91 = .ok (.goto 55, 3) := by decide +kernel
theorem dX1_meet_94 : decode cX1_meet 94 = .ok (.iload 4, 2) := by decide +kernel
theorem dX1_meet_96 : decode cX1_meet 96 = .ok (.ifCond .eq 37, 3) := by decide +kernel
theorem dX1_meet_99 : decode cX1_meet 99 = .ok (.aload_n 0, 1) := by decide +kernel
theorem dX1_meet_100 : decode cX1_meet 100 = .ok (.getfield 20, 3) := by decide +kernel
theorem dX1_meet_103 : decode cX1_meet 103 = .ok (.dup, 1) := by decide +kernel
theorem dX1_meet_104 : decode cX1_meet 104 = .ok (.getfield 114, 3) := by decide +kernel
theorem dX1_meet_107 : decode cX1_meet 107 = .ok (.iconst 2, 1) := by decide +kernel
theorem dX1_meet_108 : decode cX1_meet 108 = .ok (.isub, 1) := by decide +kernel
theorem dX1_meet_109 : decode cX1_meet 109 = .ok (.putfield 114, 3) := by decide +kernel
theorem dX1_meet_112 : decode cX1_meet 112 = .ok (.aload_n 0, 1) := by decide +kernel
theorem dX1_meet_113 : decode cX1_meet 113 = .ok (.getfield 20, 3) := by decide +kernel
theorem dX1_meet_116 : decode cX1_meet 116 = .ok (.iload_n 2, 1) := by decide +kernel
theorem dX1_meet_117 : decode cX1_meet 117 = .ok (.iconst 2, 1) := by decide +kernel
theorem dX1_meet_118 : decode cX1_meet 118 = .ok (.irem, 1) := by decide +kernel
theorem dX1_meet_119 : decode cX1_meet 119 = .ok (.ifCond .ne 7, 3) := by decide +kernel
theorem dX1_meet_122 : decode cX1_meet 122 = .ok (.iconst 1, 1) := by decide +kernel
theorem dX1_meet_123 : decode cX1_meet 123 = .ok (.goto 4, 3) := by decide +kernel
theorem dX1_meet_126 : decode cX1_meet 126 = .ok (.iconst (-1), 1) := by decide +kernel
theorem dX1_meet_127 : decode cX1_meet 127 = .ok (.invokevirtual 93, 3) := by decide +kernel
theorem dX1_meet_130 : decode cX1_meet 130 = .ok (.goto 16, 3) := by decide +kernel
theorem dX1_meet_133 : decode cX1_meet 133 = .ok (.aload_n 0, 1) := by decide +kernel
theorem dX1_meet_134 : decode cX1_meet 134 = .ok (.getfield 20, 3) := by decide +kernel
theorem dX1_meet_137 : decode cX1_meet 137 = .ok (.dup, 1) := by decide +kernel
theorem dX1_meet_138 : decode cX1_meet 138 = .ok (.getfield 114, 3) := by decide +kernel
theorem dX1_meet_141 : decode cX1_meet 141 = .ok (.iconst 1, 1) := by decide +kernel
theorem dX1_meet_142 : decode cX1_meet 142 = .ok (.isub, 1) := by decide +kernel
theorem dX1_meet_143 : decode cX1_meet 143 = .ok (.putfield 114, 3) := by decide +kernel
theorem dX1_meet_146 : decode cX1_meet 146 = .ok (.aload_n 0, 1) := by decide +kernel
theorem dX1_meet_147 : decode cX1_meet 147 = .ok (.getfield 20, 3) := by decide +kernel
theorem dX1_meet_150 : decode cX1_meet 150 = .ok (.getfield 114, 3) := by decide +kernel
theorem dX1_meet_153 : decode cX1_meet 153 = .ok (.ifCond .gt 11, 3) := by decide +kernel
theorem dX1_meet_156 : decode cX1_meet 156 = .ok (.aload_n 0, 1) := by decide +kernel
theorem dX1_meet_157 : decode cX1_meet 157 = .ok (.getfield 20, 3) := by decide +kernel
theorem dX1_meet_160 : decode cX1_meet 160 = .ok (.iload_n 1, 1) := by decide +kernel
theorem dX1_meet_161 : decode cX1_meet 161 = .ok (.invokevirtual 115, 3) := by decide +kernel
theorem dX1_meet_164 : decode cX1_meet 164 = .ok (.return_, 1) := by decide +kernel
theorem dX1_firstAt_0 : decode cX1_firstAt 0 = .ok (.iconst 0, 1) := by decide +kernel
theorem dX1_firstAt_1 : decode cX1_firstAt 1 = .ok (.istore_n 2, 1) := by decide +kernel
theorem dX1_firstAt_2 : decode cX1_firstAt 2 = .ok (.iload_n 2, 1) := by decide +kernel
theorem dX1_firstAt_3 : decode cX1_firstAt 3 = .ok (.bipush 7, 2) := by decide +kernel
theorem dX1_firstAt_5 : decode cX1_firstAt 5 = .ok (.if_icmp .ge 20, 3) := by decide +kernel
theorem dX1_firstAt_8 : decode cX1_firstAt 8 = .ok (.aload_n 0, 1) := by decide +kernel
theorem dX1_firstAt_9 : decode cX1_firstAt 9 = .ok (.iload_n 2, 1) := by decide +kernel
theorem dX1_firstAt_10 : decode cX1_firstAt 10 = .ok (.invokevirtual 118, 3) := by decide +kernel
theorem dX1_firstAt_13 : decode cX1_firstAt 13 = .ok (.iload_n 1, 1) := by decide +kernel
theorem dX1_firstAt_14 : decode cX1_firstAt 14 = .ok (.if_icmp .ne 5, 3) := by decide +kernel
theorem dX1_firstAt_17 : decode cX1_firstAt 17 = .ok (.iload_n 2, 1) := by decide +kernel
theorem dX1_firstAt_18 : decode cX1_firstAt 18 = .ok (.ireturn, 1) := by decide +kernel
theorem dX1_firstAt_19 : decode cX1_firstAt 19 = .ok (.iinc 2 1, 3) := by decide +kernel
theorem dX1_firstAt_22 : decode cX1_firstAt 22 = .ok (.goto (-20), 3) := by decide +kernel
theorem dX1_firstAt_25 : decode cX1_firstAt 25 = .ok (.iconst (-1), 1) := by decide +kernel
theorem dX1_firstAt_26 : decode cX1_firstAt 26 = .ok (.ireturn, 1) := by decide +kernel
theorem dX1_timesAt_0 : decode cX1_timesAt 0 = .ok (.iconst 0, 1) := by decide +kernel
theorem dX1_timesAt_1 : decode cX1_timesAt 1 = .ok (.istore_n 3, 1) := by decide +kernel
theorem dX1_timesAt_2 : decode cX1_timesAt 2 = .ok (.iconst 0, 1) := by decide +kernel
theorem dX1_timesAt_3 : decode cX1_timesAt 3 = .ok (.istore 4, 2) := by decide +kernel
theorem dX1_timesAt_5 : decode cX1_timesAt 5 = .ok (.iload 4, 2) := by decide +kernel
theorem dX1_timesAt_7 : decode cX1_timesAt 7 = .ok (.bipush 7, 2) := by decide +kernel
theorem dX1_timesAt_9 : decode cX1_timesAt 9 = .ok (.if_icmp .ge 39, 3) := by decide +kernel
theorem dX1_timesAt_12 : decode cX1_timesAt 12 = .ok (.iload 4, 2) := by decide +kernel
theorem dX1_timesAt_14 : decode cX1_timesAt 14 = .ok (.iload_n 2, 1) := by decide +kernel
theorem dX1_timesAt_15 : decode cX1_timesAt 15 = .ok (.if_icmp .ge 33, 3) := by decide +kernel
theorem dX1_timesAt_18 : decode cX1_timesAt 18 = .ok (.aload_n 0, 1) := by decide +kernel
theorem dX1_timesAt_19 : decode cX1_timesAt 19 = .ok (.iload 4, 2) := by decide +kernel
theorem dX1_timesAt_21 : decode cX1_timesAt 21 = .ok (.invokevirtual 118, 3) := by decide +kernel
theorem dX1_timesAt_24 : decode cX1_timesAt 24 = .ok (.iload_n 1, 1) := by decide +kernel
theorem dX1_timesAt_25 : decode cX1_timesAt 25 = .ok (.if_icmp .ne 17, 3) := by decide +kernel
theorem dX1_timesAt_28 : decode cX1_timesAt 28 = .ok (.iload_n 3, 1) := by decide +kernel
theorem dX1_timesAt_29 : decode cX1_timesAt 29 = .ok (.iload_n 2, 1) := by decide +kernel
theorem dX1_timesAt_30 : decode cX1_timesAt 30 = .ok (.iconst 1, 1) := by decide +kernel
theorem dX1_timesAt_31 : decode cX1_timesAt 31 = .ok (.isub, 1) := by decide +kernel
theorem dX1_timesAt_32 : decode cX1_timesAt 32 = .ok (.iload 4, 2) := by decide +kernel
theorem dX1_timesAt_34 : decode cX1_timesAt 34 = .ok (.isub, 1) := by decide +kernel
theorem dX1_timesAt_35 : decode cX1_timesAt 35 = .ok (.bipush 7, 2) := by decide +kernel
theorem dX1_timesAt_37 : decode cX1_timesAt 37 = .ok (.idiv, 1) := by decide +kernel
theorem dX1_timesAt_38 : decode cX1_timesAt 38 = .ok (.iconst 1, 1) := by decide +kernel
theorem dX1_timesAt_39 : decode cX1_timesAt 39 = .ok (.iadd, 1) := by decide +kernel
theorem dX1_timesAt_40 : decode cX1_timesAt 40 = .ok (.iadd, 1) := by decide +kernel
theorem dX1_timesAt_41 : decode cX1_timesAt 41 = .ok (.istore_n 3, 1) := by decide +kernel
theorem dX1_timesAt_42 : decode cX1_timesAt 42 = .ok (.iinc 4 1, 3) := by decide +kernel
theorem dX1_timesAt_45 : decode cX1_timesAt 45 = .ok (.goto (-40), 3) := by decide +kernel
theorem dX1_timesAt_48 : decode cX1_timesAt 48 = .ok (.iload_n 3, 1) := by decide +kernel
theorem dX1_timesAt_49 : decode cX1_timesAt 49 = .ok (.ireturn, 1) := by decide +kernel
theorem dX1_passYear_0 : decode cX1_passYear 0 = .ok (.aload_n 0, 1) := by decide +kernel
theorem dX1_passYear_1 : decode cX1_passYear 1 = .ok (.iconst 0, 1) := by decide +kernel
theorem dX1_passYear_2 : decode cX1_passYear 2 = .ok (.invokevirtual 118, 3) := by decide +kernel
theorem dX1_passYear_5 : decode cX1_passYear 5 = .ok (.istore_n 1, 1) := by decide +kernel
theorem dX1_passYear_6 : decode cX1_passYear 6 = .ok (.aload_n 0, 1) := by decide +kernel
theorem dX1_passYear_7 : decode cX1_passYear 7 = .ok (.dup, 1) := by decide +kernel
theorem dX1_passYear_8 : decode cX1_passYear 8 = .ok (.getfield 48, 3) := by decide +kernel
theorem dX1_passYear_11 : decode cX1_passYear 11 = .ok (.iconst 1, 1) := by decide +kernel
theorem dX1_passYear_12 : decode cX1_passYear 12 = .ok (.iadd, 1) := by decide +kernel
theorem dX1_passYear_13 : decode cX1_passYear 13 = .ok (.putfield 48, 3) := by decide +kernel
theorem dX1_passYear_16 : decode cX1_passYear 16 = .ok (.iload_n 1, 1) := by decide +kernel
theorem dX1_passYear_17 : decode cX1_passYear 17 = .ok (.ifCond .lt 18, 3) := by decide +kernel
theorem dX1_passYear_20 : decode cX1_passYear 20 = .ok (.aload_n 0, 1) := by decide +kernel
theorem dX1_passYear_21 : decode cX1_passYear 21 = .ok (.getfield 11, 3) := by decide +kernel
theorem dX1_passYear_24 : decode cX1_passYear 24 = .ok (.iload_n 1, 1) := by decide +kernel
theorem dX1_passYear_25 : decode cX1_passYear 25 = .ok (.aaload, 1) := by decide +kernel
theorem dX1_passYear_26 : decode cX1_passYear 26 = .ok (.dup, 1) := by decide +kernel
theorem dX1_passYear_27 : decode cX1_passYear 27 = .ok (.getfield 71, 3) := by decide +kernel
theorem dX1_passYear_30 : decode cX1_passYear 30 = .ok (.iconst 1, 1) := by decide +kernel
theorem dX1_passYear_31 : decode cX1_passYear 31 = .ok (.iadd, 1) := by decide +kernel
theorem dX1_passYear_32 : decode cX1_passYear 32 = .ok (.putfield 71, 3) := by decide +kernel
theorem dX1_passYear_35 : decode cX1_passYear 35 = .ok (.iload_n 1, 1) := by decide +kernel
theorem dX1_passYear_36 : decode cX1_passYear 36 = .ok (.ireturn, 1) := by decide +kernel
theorem dX1_forgetGot_0 : decode cX1_forgetGot 0 = .ok (.iconst 0, 1) := by decide +kernel
theorem dX1_forgetGot_1 : decode cX1_forgetGot 1 = .ok (.istore_n 1, 1) := by decide +kernel
theorem dX1_forgetGot_2 : decode cX1_forgetGot 2 = .ok (.iload_n 1, 1) := by decide +kernel
theorem dX1_forgetGot_3 : decode cX1_forgetGot 3 = .ok (.aload_n 0, 1) := by decide +kernel
theorem dX1_forgetGot_4 : decode cX1_forgetGot 4 = .ok (.getfield 51, 3) := by decide +kernel
theorem dX1_forgetGot_7 : decode cX1_forgetGot 7 = .ok (.if_icmp .ge 19, 3) := by decide +kernel
theorem dX1_forgetGot_10 : decode cX1_forgetGot 10 = .ok (.aload_n 0, 1) := by decide +kernel
theorem dX1_forgetGot_11 : decode cX1_forgetGot 11 = .ok (.getfield 11, 3) := by decide +kernel
theorem dX1_forgetGot_14 : decode cX1_forgetGot 14 = .ok (.iload_n 1, 1) := by decide +kernel
theorem dX1_forgetGot_15 : decode cX1_forgetGot 15 = .ok (.aaload, 1) := by decide +kernel
theorem dX1_forgetGot_16 : decode cX1_forgetGot 16 = .ok (.iconst 0, 1) := by decide +kernel
theorem dX1_forgetGot_17 : decode cX1_forgetGot 17 = .ok (.putfield 71, 3) := by decide +kernel
theorem dX1_forgetGot_20 : decode cX1_forgetGot 20 = .ok (.iinc 1 1, 3) := by decide +kernel
theorem dX1_forgetGot_23 : decode cX1_forgetGot 23 = .ok (.goto (-21), 3) := by decide +kernel
theorem dX1_forgetGot_26 : decode cX1_forgetGot 26 = .ok (.return_, 1) := by decide +kernel
theorem dX1_allGot_0 : decode cX1_allGot 0 = .ok (.iconst 0, 1) := by decide +kernel
theorem dX1_allGot_1 : decode cX1_allGot 1 = .ok (.istore_n 1, 1) := by decide +kernel
theorem dX1_allGot_2 : decode cX1_allGot 2 = .ok (.iconst 0, 1) := by decide +kernel
theorem dX1_allGot_3 : decode cX1_allGot 3 = .ok (.istore_n 2, 1) := by decide +kernel
theorem dX1_allGot_4 : decode cX1_allGot 4 = .ok (.iload_n 2, 1) := by decide +kernel
theorem dX1_allGot_5 : decode cX1_allGot 5 = .ok (.aload_n 0, 1) := by decide +kernel
theorem dX1_allGot_6 : decode cX1_allGot 6 = .ok (.getfield 51, 3) := by decide +kernel
theorem dX1_allGot_9 : decode cX1_allGot 9 = .ok (.if_icmp .ge 21, 3) := by decide +kernel
theorem dX1_allGot_12 : decode cX1_allGot 12 = .ok (.iload_n 1, 1) := by decide +kernel
theorem dX1_allGot_13 : decode cX1_allGot 13 = .ok (.aload_n 0, 1) := by decide +kernel
theorem dX1_allGot_14 : decode cX1_allGot 14 = .ok (.getfield 11, 3) := by decide +kernel
theorem dX1_allGot_17 : decode cX1_allGot 17 = .ok (.iload_n 2, 1) := by decide +kernel
theorem dX1_allGot_18 : decode cX1_allGot 18 = .ok (.aaload, 1) := by decide +kernel
theorem dX1_allGot_19 : decode cX1_allGot 19 = .ok (.getfield 71, 3) := by decide +kernel
theorem dX1_allGot_22 : decode cX1_allGot 22 = .ok (.iadd, 1) := by decide +kernel
theorem dX1_allGot_23 : decode cX1_allGot 23 = .ok (.istore_n 1, 1) := by decide +kernel
theorem dX1_allGot_24 : decode cX1_allGot 24 = .ok (.iinc 2 1, 3) := by decide +kernel
theorem dX1_allGot_27 : decode cX1_allGot 27 = .ok (.goto (-23), 3) := by decide +kernel
theorem dX1_allGot_30 : decode cX1_allGot 30 = .ok (.iload_n 1, 1) := by decide +kernel
theorem dX1_allGot_31 : decode cX1_allGot 31 = .ok (.ireturn, 1) := by decide +kernel
theorem dX1_mostFavoured_0 : decode cX1_mostFavoured 0 = .ok (.iconst 0, 1) := by decide +kernel
theorem dX1_mostFavoured_1 : decode cX1_mostFavoured 1 = .ok (.istore_n 1, 1) := by decide +kernel
theorem dX1_mostFavoured_2 : decode cX1_mostFavoured 2 = .ok (.iconst (-1), 1) := by decide +kernel
theorem dX1_mostFavoured_3 : decode cX1_mostFavoured 3 = .ok (.istore_n 2, 1) := by decide +kernel
theorem dX1_mostFavoured_4 : decode cX1_mostFavoured 4 = .ok (.iconst 0, 1) := by decide +kernel
theorem dX1_mostFavoured_5 : decode cX1_mostFavoured 5 = .ok (.istore_n 3, 1) := by decide +kernel
theorem dX1_mostFavoured_6 : decode cX1_mostFavoured 6 = .ok (.iload_n 3, 1) := by decide +kernel
theorem dX1_mostFavoured_7 : decode cX1_mostFavoured 7 = .ok (.aload_n 0, 1) := by decide +kernel
theorem dX1_mostFavoured_8 : decode cX1_mostFavoured 8 = .ok (.getfield 51, 3) := by decide +kernel
theorem dX1_mostFavoured_11 : decode cX1_mostFavoured 11 = .ok (.if_icmp .ge 34, 3) := by decide +kernel
theorem dX1_mostFavoured_14 : decode cX1_mostFavoured 14 = .ok (.aload_n 0, 1) := by decide +kernel
theorem dX1_mostFavoured_15 : decode cX1_mostFavoured 15 = .ok (.getfield 11, 3) := by decide +kernel
theorem dX1_mostFavoured_18 : decode cX1_mostFavoured 18 = .ok (.iload_n 3, 1) := by decide +kernel
theorem dX1_mostFavoured_19 : decode cX1_mostFavoured 19 = .ok (.aaload, 1) := by decide +kernel
theorem dX1_mostFavoured_20 : decode cX1_mostFavoured 20 = .ok (.getfield 71, 3) := by decide +kernel
theorem dX1_mostFavoured_23 : decode cX1_mostFavoured 23 = .ok (.iload_n 1, 1) := by decide +kernel
theorem dX1_mostFavoured_24 : decode cX1_mostFavoured 24 = .ok (.if_icmp .le 15, 3) := by decide +kernel
theorem dX1_mostFavoured_27 : decode cX1_mostFavoured 27 = .ok (.aload_n 0, 1) := by decide +kernel
theorem dX1_mostFavoured_28 : decode cX1_mostFavoured 28 = .ok (.getfield 11, 3) := by decide +kernel
theorem dX1_mostFavoured_31 : decode cX1_mostFavoured 31 = .ok (.iload_n 3, 1) := by decide +kernel
theorem dX1_mostFavoured_32 : decode cX1_mostFavoured 32 = .ok (.aaload, 1) := by decide +kernel
theorem dX1_mostFavoured_33 : decode cX1_mostFavoured 33 = .ok (.getfield 71, 3) := by decide +kernel
theorem dX1_mostFavoured_36 : decode cX1_mostFavoured 36 = .ok (.istore_n 1, 1) := by decide +kernel
theorem dX1_mostFavoured_37 : decode cX1_mostFavoured 37 = .ok (.iload_n 3, 1) := by decide +kernel
theorem dX1_mostFavoured_38 : decode cX1_mostFavoured 38 = .ok (.istore_n 2, 1) := by decide +kernel
theorem dX1_mostFavoured_39 : decode cX1_mostFavoured 39 = .ok (.iinc 3 1, 3) := by decide +kernel
theorem dX1_mostFavoured_42 : decode cX1_mostFavoured 42 = .ok (.goto (-36), 3) := by decide +kernel
theorem dX1_mostFavoured_45 : decode cX1_mostFavoured 45 = .ok (.iload_n 2, 1) := by decide +kernel
theorem dX1_mostFavoured_46 : decode cX1_mostFavoured 46 = .ok (.ireturn, 1) := by decide +kernel
theorem dX2_init_0 : decode cX2_init 0 = .ok (.aload_n 0, 1) := by decide +kernel
theorem dX2_init_1 : decode cX2_init 1 = .ok (.invokespecial 1, 3) := by decide +kernel
theorem dX2_init_4 : decode cX2_init 4 = .ok (.return_, 1) := by decide +kernel
theorem dX2_become_0 : decode cX2_become 0 = .ok (.aload_n 0, 1) := by decide +kernel
theorem dX2_become_1 : decode cX2_become 1 = .ok (.aload_n 1, 1) := by decide +kernel
theorem dX2_become_2 : decode cX2_become 2 = .ok (.getfield 7, 3) := by decide +kernel
theorem dX2_become_5 : decode cX2_become 5 = .ok (.putfield 7, 3) := by decide +kernel
theorem dX2_become_8 : decode cX2_become 8 = .ok (.aload_n 0, 1) := by decide +kernel
theorem dX2_become_9 : decode cX2_become 9 = .ok (.aload_n 1, 1) := by decide +kernel
theorem dX2_become_10 : decode cX2_become 10 = .ok (.getfield 13, 3) := by decide +kernel
theorem dX2_become_13 : decode cX2_become 13 = .ok (.putfield 13, 3) := by decide +kernel
theorem dX2_become_16 : decode cX2_become 16 = .ok (.aload_n 0, 1) := by decide +kernel
theorem dX2_become_17 : decode cX2_become 17 = .ok (.aload_n 1, 1) := by decide +kernel
theorem dX2_become_18 : decode cX2_become 18 = .ok (.getfield 16, 3) := by decide +kernel
theorem dX2_become_21 : decode cX2_become 21 = .ok (.putfield 16, 3) := by decide +kernel
theorem dX2_become_24 : decode cX2_become 24 = .ok (.aload_n 0, 1) := by decide +kernel
theorem dX2_become_25 : decode cX2_become 25 = .ok (.aload_n 1, 1) := by decide +kernel
theorem dX2_become_26 : decode cX2_become 26 = .ok (.getfield 19, 3) := by decide +kernel
theorem dX2_become_29 : decode cX2_become 29 = .ok (.putfield 19, 3) := by decide +kernel
theorem dX2_become_32 : decode cX2_become 32 = .ok (.aload_n 0, 1) := by decide +kernel
theorem dX2_become_33 : decode cX2_become 33 = .ok (.aload_n 1, 1) := by decide +kernel
theorem dX2_become_34 : decode cX2_become 34 = .ok (.getfield 22, 3) := by decide +kernel
theorem dX2_become_37 : decode cX2_become 37 = .ok (.putfield 22, 3) := by decide +kernel
theorem dX2_become_40 : decode cX2_become 40 = .ok (.return_, 1) := by decide +kernel
theorem dX2_stand_0 : decode cX2_stand 0 = .ok (.aload_n 0, 1) := by decide +kernel
theorem dX2_stand_1 : decode cX2_stand 1 = .ok (.iload_n 1, 1) := by decide +kernel
theorem dX2_stand_2 : decode cX2_stand 2 = .ok (.putfield 13, 3) := by decide +kernel
theorem dX2_stand_5 : decode cX2_stand 5 = .ok (.aload_n 0, 1) := by decide +kernel
theorem dX2_stand_6 : decode cX2_stand 6 = .ok (.iload_n 2, 1) := by decide +kernel
theorem dX2_stand_7 : decode cX2_stand 7 = .ok (.putfield 16, 3) := by decide +kernel
theorem dX2_stand_10 : decode cX2_stand 10 = .ok (.return_, 1) := by decide +kernel
theorem dX2_cell_0 : decode cX2_cell 0 = .ok (.bipush 10, 2) := by decide +kernel
theorem dX2_cell_2 : decode cX2_cell 2 = .ok (.aload_n 0, 1) := by decide +kernel
theorem dX2_cell_3 : decode cX2_cell 3 = .ok (.getfield 13, 3) := by decide +kernel
theorem dX2_cell_6 : decode cX2_cell 6 = .ok (.imul, 1) := by decide +kernel
theorem dX2_cell_7 : decode cX2_cell 7 = .ok (.aload_n 0, 1) := by decide +kernel
theorem dX2_cell_8 : decode cX2_cell 8 = .ok (.getfield 16, 3) := by decide +kernel
theorem dX2_cell_11 : decode cX2_cell 11 = .ok (.iadd, 1) := by decide +kernel
theorem dX2_cell_12 : decode cX2_cell 12 = .ok (.ireturn, 1) := by decide +kernel
theorem dX3_init_0 : decode cX3_init 0 = .ok (.aload_n 0, 1) := by decide +kernel
theorem dX3_init_1 : decode cX3_init 1 = .ok (.invokespecial 3, 3) := by decide +kernel
theorem dX3_init_4 : decode cX3_init 4 = .ok (.aload_n 0, 1) := by decide +kernel
theorem dX3_init_5 : decode cX3_init 5 = .ok (.bipush 10, 2) := by decide +kernel
theorem dX3_init_7 : decode cX3_init 7 = .ok (.newarray .int, 2) := by decide +kernel
theorem dX3_init_9 : decode cX3_init 9 = .ok (.putfield 9, 3) := by decide +kernel
theorem dX3_init_12 : decode cX3_init 12 = .ok (.return_, 1) := by decide +kernel
theorem dX3_begin_0 : decode cX3_begin 0 = .ok (.aload_n 0, 1) := by decide +kernel
theorem dX3_begin_1 : decode cX3_begin 1 = .ok (.iload_n 1, 1) := by decide +kernel
theorem dX3_begin_2 : decode cX3_begin 2 = .ok (.putfield 15, 3) := by decide +kernel
theorem dX3_begin_5 : decode cX3_begin 5 = .ok (.aload_n 0, 1) := by decide +kernel
theorem dX3_begin_6 : decode cX3_begin 6 = .ok (.iload_n 2, 1) := by decide +kernel
theorem dX3_begin_7 : decode cX3_begin 7 = .ok (.putfield 19, 3) := by decide +kernel
theorem dX3_begin_10 : decode cX3_begin 10 = .ok (.aload_n 0, 1) := by decide +kernel
theorem dX3_begin_11 : decode cX3_begin 11 = .ok (.iconst (-1), 1) := by decide +kernel
theorem dX3_begin_12 : decode cX3_begin 12 = .ok (.putfield 22, 3) := by decide +kernel
theorem dX3_begin_15 : decode cX3_begin 15 = .ok (.aload_n 0, 1) := by decide +kernel
theorem dX3_begin_16 : decode cX3_begin 16 = .ok (.iconst 0, 1) := by decide +kernel
theorem dX3_begin_17 : decode cX3_begin 17 = .ok (.putfield 25, 3) := by decide +kernel
theorem dX3_begin_20 : decode cX3_begin 20 = .ok (.aload_n 0, 1) := by decide +kernel
theorem dX3_begin_21 : decode cX3_begin 21 = .ok (.iconst 0, 1) := by decide +kernel
theorem dX3_begin_22 : decode cX3_begin 22 = .ok (.invokevirtual 29, 3) := by decide +kernel
theorem dX3_begin_25 : decode cX3_begin 25 = .ok (.return_, 1) := by decide +kernel
theorem dX3_reach_0 : decode cX3_reach 0 = .ok (.iload_n 1, 1) := by decide +kernel
theorem dX3_reach_1 : decode cX3_reach 1 = .ok (.iconst 0, 1) := by decide +kernel
theorem dX3_reach_2 : decode cX3_reach 2 = .ok (.bipush 9, 2) := by decide +kernel
theorem dX3_reach_4 : decode cX3_reach 4 = .ok (.invokestatic 33, 3) := by decide +kernel
theorem dX3_reach_7 : decode cX3_reach 7 = .ok (.ifCond .ne 4, 3) := by decide +kernel
theorem dX3_reach_10 : decode cX3_reach 10 = .ok (.return_, 1) := by decide +kernel
theorem dX3_reach_11 : decode cX3_reach 11 = .ok (.aload_n 0, 1) := by decide +kernel
theorem dX3_reach_12 : decode cX3_reach 12 = .ok (.iload_n 1, 1) := by decide +kernel
theorem dX3_reach_13 : decode cX3_reach 13 = .ok (.putfield 37, 3) := by decide +kernel
theorem dX3_reach_16 : decode cX3_reach 16 = .ok (.aload_n 0, 1) := by decide +kernel
theorem dX3_reach_17 : decode cX3_reach 17 = .ok (.getfield 9, 3) := by decide +kernel
theorem dX3_reach_20 : decode cX3_reach 20 = .ok (.iload_n 1, 1) := by decide +kernel
theorem dX3_reach_21 : decode cX3_reach 21 = .ok (.aload_n 0, 1) := by decide +kernel
theorem dX3_reach_22 : decode cX3_reach 22 = .ok (.getfield 15, 3) := by decide +kernel
theorem dX3_reach_25 : decode cX3_reach 25 = .ok (.iastore, 1) := by decide +kernel
theorem dX3_reach_26 : decode cX3_reach 26 = .ok (.return_, 1) := by decide +kernel
theorem dX3_turn_0 : decode cX3_turn 0 = .ok (.aload_n 0, 1) := by decide +kernel
theorem dX3_turn_1 : decode cX3_turn 1 = .ok (.iconst 0, 1) := by decide +kernel
theorem dX3_turn_2 : decode cX3_turn 2 = .ok (.bipush 6, 2) := by decide +kernel
theorem dX3_turn_4 : decode cX3_turn 4 = .ok (.aload_n 0, 1) := by decide +kernel
theorem dX3_turn_5 : decode cX3_turn 5 = .ok (.getfield 15, 3) := by decide +kernel
theorem dX3_turn_8 : decode cX3_turn 8 = .ok (.iload_n 1, 1) := by decide +kernel
theorem dX3_turn_9 : decode cX3_turn 9 = .ok (.iadd, 1) := by decide +kernel
theorem dX3_turn_10 : decode cX3_turn 10 = .ok (.invokestatic 40, 3) := by decide +kernel
theorem dX3_turn_13 : decode cX3_turn 13 = .ok (.invokestatic 46, 3) := by decide +kernel
theorem dX3_turn_16 : decode cX3_turn 16 = .ok (.putfield 15, 3) := by decide +kernel
theorem dX3_turn_19 : decode cX3_turn 19 = .ok (.return_, 1) := by decide +kernel
theorem dX3_restAt_0 : decode cX3_restAt 0 = .ok (.aload_n 0, 1) := by decide +kernel
theorem dX3_restAt_1 : decode cX3_restAt 1 = .ok (.iload_n 1, 1) := by decide +kernel
theorem dX3_restAt_2 : decode cX3_restAt 2 = .ok (.putfield 22, 3) := by decide +kernel
theorem dX3_restAt_5 : decode cX3_restAt 5 = .ok (.aload_n 0, 1) := by decide +kernel
theorem dX3_restAt_6 : decode cX3_restAt 6 = .ok (.iconst 1, 1) := by decide +kernel
theorem dX3_restAt_7 : decode cX3_restAt 7 = .ok (.putfield 25, 3) := by decide +kernel
theorem dX3_restAt_10 : decode cX3_restAt 10 = .ok (.return_, 1) := by decide +kernel
theorem dX4_init_0 : decode cX4_init 0 = .ok (.aload_n 0, 1) := by decide +kernel
theorem dX4_init_1 : decode cX4_init 1 = .ok (.invokespecial 3, 3) := by decide +kernel
theorem dX4_init_4 : decode cX4_init 4 = .ok (.aload_n 0, 1) := by decide +kernel
theorem dX4_init_5 : decode cX4_init 5 = .ok (.bipush 40, 2) := by decide +kernel
theorem dX4_init_7 : decode cX4_init 7 = .ok (.newarray .int, 2) := by decide +kernel
theorem dX4_init_9 : decode cX4_init 9 = .ok (.putfield 9, 3) := by decide +kernel
theorem dX4_init_12 : decode cX4_init 12 = .ok (.aload_n 0, 1) := by decide +kernel
theorem dX4_init_13 : decode cX4_init 13 = .ok (.iconst 1, 1) := by decide +kernel
theorem dX4_init_14 : decode cX4_init 14 = .ok (.putfield 15, 3) := by decide +kernel
theorem dX4_init_17 : decode cX4_init 17 = .ok (.return_, 1) := by decide +kernel
theorem dX4_begin_0 : decode cX4_begin 0 = .ok (.aload_n 0, 1) := by decide +kernel
theorem dX4_begin_1 : decode cX4_begin 1 = .ok (.iconst 0, 1) := by decide +kernel
theorem dX4_begin_2 : decode cX4_begin 2 = .ok (.putfield 15, 3) := by decide +kernel
theorem dX4_begin_5 : decode cX4_begin 5 = .ok (.aload_n 0, 1) := by decide +kernel
theorem dX4_begin_6 : decode cX4_begin 6 = .ok (.iload_n 1, 1) := by decide +kernel
theorem dX4_begin_7 : decode cX4_begin 7 = .ok (.putfield 19, 3) := by decide +kernel
theorem dX4_begin_10 : decode cX4_begin 10 = .ok (.aload_n 0, 1) := by decide +kernel
theorem dX4_begin_11 : decode cX4_begin 11 = .ok (.iload_n 2, 1) := by decide +kernel
theorem dX4_begin_12 : decode cX4_begin 12 = .ok (.putfield 23, 3) := by decide +kernel
theorem dX4_begin_15 : decode cX4_begin 15 = .ok (.iconst 0, 1) := by decide +kernel
theorem dX4_begin_16 : decode cX4_begin 16 = .ok (.istore_n 3, 1) := by decide +kernel
theorem dX4_begin_17 : decode cX4_begin 17 = .ok (.iload_n 3, 1) := by decide +kernel
theorem dX4_begin_18 : decode cX4_begin 18 = .ok (.bipush 40, 2) := by decide +kernel
theorem dX4_begin_20 : decode cX4_begin 20 = .ok (.if_icmp .ge 16, 3) := by decide +kernel
theorem dX4_begin_23 : decode cX4_begin 23 = .ok (.aload_n 0, 1) := by decide +kernel
theorem dX4_begin_24 : decode cX4_begin 24 = .ok (.getfield 9, 3) := by decide +kernel
theorem dX4_begin_27 : decode cX4_begin 27 = .ok (.iload_n 3, 1) := by decide +kernel
theorem dX4_begin_28 : decode cX4_begin 28 = .ok (.iconst 0, 1) := by decide +kernel
theorem dX4_begin_29 : decode cX4_begin 29 = .ok (.iastore, 1) := by decide +kernel
theorem dX4_begin_30 : decode cX4_begin 30 = .ok (.iinc 3 1, 3) := by decide +kernel
theorem dX4_begin_33 : decode cX4_begin 33 = .ok (.goto (-16), 3) := by decide +kernel
theorem dX4_begin_36 : decode cX4_begin 36 = .ok (.return_, 1) := by decide +kernel
theorem dX4_reaches_0 : decode cX4_reaches 0 = .ok (.iload_n 1, 1) := by decide +kernel
theorem dX4_reaches_1 : decode cX4_reaches 1 = .ok (.ifCond .lt 29, 3) := by decide +kernel
theorem dX4_reaches_4 : decode cX4_reaches 4 = .ok (.iload_n 2, 1) := by decide +kernel
theorem dX4_reaches_5 : decode cX4_reaches 5 = .ok (.ifCond .lt 25, 3) := by decide +kernel
theorem dX4_reaches_8 : decode cX4_reaches 8 = .ok (.iload_n 2, 1) := by decide +kernel
theorem dX4_reaches_9 : decode cX4_reaches 9 = .ok (.aload_n 0, 1) := by decide +kernel
theorem dX4_reaches_10 : decode cX4_reaches 10 = .ok (.getfield 23, 3) := by decide +kernel
theorem dX4_reaches_13 : decode cX4_reaches 13 = .ok (.if_icmp .gt 17, 3) := by decide +kernel
theorem dX4_reaches_16 : decode cX4_reaches 16 = .ok (.iload_n 1, 1) := by decide +kernel
theorem dX4_reaches_17 : decode cX4_reaches 17 = .ok (.aload_n 0, 1) := by decide +kernel
theorem dX4_reaches_18 : decode cX4_reaches 18 = .ok (.getfield 23, 3) := by decide +kernel
theorem dX4_reaches_21 : decode cX4_reaches 21 = .ok (.iload_n 2, 1) := by decide +kernel
theorem dX4_reaches_22 : decode cX4_reaches 22 = .ok (.isub, 1) := by decide +kernel
theorem dX4_reaches_23 : decode cX4_reaches 23 = .ok (.if_icmp .gt 7, 3) := by decide +kernel
theorem dX4_reaches_26 : decode cX4_reaches 26 = .ok (.iconst 1, 1) := by decide +kernel
theorem dX4_reaches_27 : decode cX4_reaches 27 = .ok (.goto 4, 3) := by decide +kernel
theorem dX4_reaches_30 : decode cX4_reaches 30 = .ok (.iconst 0, 1) := by decide +kernel
theorem dX4_reaches_31 : decode cX4_reaches 31 = .ok (.ireturn, 1) := by decide +kernel
theorem dX4_cut_0 : decode cX4_cut 0 = .ok (.aload_n 0, 1) := by decide +kernel
theorem dX4_cut_1 : decode cX4_cut 1 = .ok (.getfield 19, 3) := by decide +kernel
theorem dX4_cut_4 : decode cX4_cut 4 = .ok (.ifCond .ne 6, 3) := by decide +kernel
theorem dX4_cut_7 : decode cX4_cut 7 = .ok (.iload_n 1, 1) := by decide +kernel
theorem dX4_cut_8 : decode cX4_cut 8 = .ok (.i2b, 1) := by decide +kernel
theorem dX4_cut_9 : decode cX4_cut 9 = .ok (.ireturn, 1) := by decide +kernel
theorem dX4_cut_10 : decode cX4_cut 10 = .ok (.aload_n 0, 1) := by decide +kernel
theorem dX4_cut_11 : decode cX4_cut 11 = .ok (.getfield 19, 3) := by decide +kernel
theorem dX4_cut_14 : decode cX4_cut 14 = .ok (.iconst 1, 1) := by decide +kernel
theorem dX4_cut_15 : decode cX4_cut 15 = .ok (.if_icmp .ne 8, 3) := by decide +kernel
theorem dX4_cut_18 : decode cX4_cut 18 = .ok (.iload_n 1, 1) := by decide +kernel
theorem dX4_cut_19 : decode cX4_cut 19 = .ok (.i2s, 1) := by decide +kernel
theorem dX4_cut_20 : decode cX4_cut 20 = .ok (.goto 4, 3) := by decide +kernel
theorem dX4_cut_23 : decode cX4_cut 23 = .ok (.iload_n 1, 1) := by decide +kernel
theorem dX4_cut_24 : decode cX4_cut 24 = .ok (.ireturn, 1) := by decide +kernel
theorem dX5_init_0 : decode cX5_init 0 = .ok (.aload_n 0, 1) := by decide +kernel
theorem dX5_init_1 : decode cX5_init 1 = .ok (.invokespecial 3, 3) := by decide +kernel
theorem dX5_init_4 : decode cX5_init 4 = .ok (.aload_n 0, 1) := by decide +kernel
theorem dX5_init_5 : decode cX5_init 5 = .ok (.new 9, 3) := by decide +kernel
theorem dX5_init_8 : decode cX5_init 8 = .ok (.dup, 1) := by decide +kernel
theorem dX5_init_9 : decode cX5_init 9 = .ok (.invokespecial 11, 3) := by decide +kernel
theorem dX5_init_12 : decode cX5_init 12 = .ok (.putfield 12, 3) := by decide +kernel
theorem dX5_init_15 : decode cX5_init 15 = .ok (.return_, 1) := by decide +kernel
theorem dX5_fewestDoors_0 : decode cX5_fewestDoors 0 = .ok (.aload_n 0, 1) := by decide +kernel
theorem dX5_fewestDoors_1 : decode cX5_fewestDoors 1 = .ok (.getfield 12, 3) := by decide +kernel
theorem dX5_fewestDoors_4 : decode cX5_fewestDoors 4 = .ok (.aload_n 1, 1) := by decide +kernel
theorem dX5_fewestDoors_5 : decode cX5_fewestDoors 5 = .ok (.invokevirtual 18, 3) := by decide +kernel
theorem dX5_fewestDoors_8 : decode cX5_fewestDoors 8 = .ok (.iconst (-1), 1) := by decide +kernel
theorem dX5_fewestDoors_9 : decode cX5_fewestDoors 9 = .ok (.istore 4, 2) := by decide +kernel
theorem dX5_fewestDoors_11 : decode cX5_fewestDoors 11 = .ok (.iconst 0, 1) := by decide +kernel
theorem dX5_fewestDoors_12 : decode cX5_fewestDoors 12 = .ok (.istore 5, 2) := by decide +kernel
theorem dX5_fewestDoors_14 : decode cX5_fewestDoors 14 = .ok (.iload 5, 2) := by decide +kernel
theorem dX5_fewestDoors_16 : decode cX5_fewestDoors 16 = .ok (.aload_n 1, 1) := by decide +kernel
theorem dX5_fewestDoors_17 : decode cX5_fewestDoors 17 = .ok (.invokevirtual 22, 3) := by decide +kernel
theorem dX5_fewestDoors_20 : decode cX5_fewestDoors 20 = .ok (.if_icmp .gt 82, 3) := by decide +kernel
theorem dX5_fewestDoors_23 : decode cX5_fewestDoors 23 = .ok (.iload 4, 2) := by decide +kernel
theorem dX5_fewestDoors_25 : decode cX5_fewestDoors 25 = .ok (.ifCond .lt 19, 3) := by decide +kernel
theorem dX5_fewestDoors_28 : decode cX5_fewestDoors 28 = .ok (.iload 5, 2) := by decide +kernel
theorem dX5_fewestDoors_30 : decode cX5_fewestDoors 30 = .ok (.invokestatic 26, 3) := by decide +kernel
theorem dX5_fewestDoors_33 : decode cX5_fewestDoors 33 = .ok (.iload 4, 2) := by decide +kernel
theorem dX5_fewestDoors_35 : decode cX5_fewestDoors 35 = .ok (.invokestatic 26, 3) := by decide +kernel
theorem dX5_fewestDoors_38 : decode cX5_fewestDoors 38 = .ok (.if_icmp .lt 6, 3) := by decide +kernel
theorem dX5_fewestDoors_41 : decode cX5_fewestDoors 41 = .ok (.goto 55, 3) := by decide +kernel
theorem dX5_fewestDoors_44 : decode cX5_fewestDoors 44 = .ok (.aload_n 0, 1) := by decide +kernel
theorem dX5_fewestDoors_45 : decode cX5_fewestDoors 45 = .ok (.getfield 12, 3) := by decide +kernel
theorem dX5_fewestDoors_48 : decode cX5_fewestDoors 48 = .ok (.aload_n 1, 1) := by decide +kernel
theorem dX5_fewestDoors_49 : decode cX5_fewestDoors 49 = .ok (.getfield 32, 3) := by decide +kernel
theorem dX5_fewestDoors_52 : decode cX5_fewestDoors 52 = .ok (.iload 5, 2) := by decide +kernel
theorem dX5_fewestDoors_54 : decode cX5_fewestDoors 54 = .ok (.ixor, 1) := by decide +kernel
theorem dX5_fewestDoors_55 : decode cX5_fewestDoors 55 = .ok (.putfield 32, 3) := by decide +kernel
theorem dX5_fewestDoors_58 : decode cX5_fewestDoors 58 = .ok (.aload_n 0, 1) := by decide +kernel
theorem dX5_fewestDoors_59 : decode cX5_fewestDoors 59 = .ok (.getfield 12, 3) := by decide +kernel
theorem dX5_fewestDoors_62 : decode cX5_fewestDoors 62 = .ok (.iload_n 2, 1) := by decide +kernel
theorem dX5_fewestDoors_63 : decode cX5_fewestDoors 63 = .ok (.invokevirtual 36, 3) := by decide +kernel
theorem dX5_fewestDoors_66 : decode cX5_fewestDoors 66 = .ok (.istore 6, 2) := by decide +kernel
theorem dX5_fewestDoors_68 : decode cX5_fewestDoors 68 = .ok (.iload 6, 2) := by decide +kernel
theorem dX5_fewestDoors_70 : decode cX5_fewestDoors 70 = .ok (.ifCond .ge 8, 3) := by decide +kernel
theorem dX5_fewestDoors_73 : decode cX5_fewestDoors 73 = .ok (.bipush 6, 2) := by decide +kernel
theorem dX5_fewestDoors_75 : decode cX5_fewestDoors 75 = .ok (.goto 5, 3) := by decide +kernel
theorem dX5_fewestDoors_78 : decode cX5_fewestDoors 78 = .ok (.iload 6, 2) := by decide +kernel
theorem dX5_fewestDoors_80 : decode cX5_fewestDoors 80 = .ok (.istore 7, 2) := by decide +kernel
theorem dX5_fewestDoors_82 : decode cX5_fewestDoors 82 = .ok (.iload_n 3, 1) := by decide +kernel
theorem dX5_fewestDoors_83 : decode cX5_fewestDoors 83 = .ok (.iload 7, 2) := by decide +kernel
theorem dX5_fewestDoors_85 : decode cX5_fewestDoors 85 = .ok (.ishr, 1) := by decide +kernel
theorem dX5_fewestDoors_86 : decode cX5_fewestDoors 86 = .ok (.iconst 1, 1) := by decide +kernel
theorem dX5_fewestDoors_87 : decode cX5_fewestDoors 87 = .ok (.iand, 1) := by decide +kernel
theorem dX5_fewestDoors_88 : decode cX5_fewestDoors 88 = .ok (.iconst 1, 1) := by decide +kernel
theorem dX5_fewestDoors_89 : decode cX5_fewestDoors 89 = .ok (.if_icmp .ne 7, 3) := by decide +kernel
theorem dX5_fewestDoors_92 : decode cX5_fewestDoors 92 = .ok (.iload 5, 2) := by decide +kernel
theorem dX5_fewestDoors_94 : decode cX5_fewestDoors 94 = .ok (.istore 4, 2) := by decide +kernel
theorem dX5_fewestDoors_96 : decode cX5_fewestDoors 96 = .ok (.iinc 5 1, 3) := by decide +kernel
theorem dX5_fewestDoors_99 : decode cX5_fewestDoors 99 = .ok (.goto (-85), 3) := by decide +kernel
theorem dX5_fewestDoors_102 : decode cX5_fewestDoors 102 = .ok (.iload 4, 2) := by decide +kernel
theorem dX5_fewestDoors_104 : decode cX5_fewestDoors 104 = .ok (.ireturn, 1) := by decide +kernel
theorem dX5_bestCell_0 : decode cX5_bestCell 0 = .ok (.aload_n 0, 1) := by decide +kernel
theorem dX5_bestCell_1 : decode cX5_bestCell 1 = .ok (.getfield 12, 3) := by decide +kernel
theorem dX5_bestCell_4 : decode cX5_bestCell 4 = .ok (.aload_n 1, 1) := by decide +kernel
theorem dX5_bestCell_5 : decode cX5_bestCell 5 = .ok (.invokevirtual 18, 3) := by decide +kernel
theorem dX5_bestCell_8 : decode cX5_bestCell 8 = .ok (.aload_n 1, 1) := by decide +kernel
theorem dX5_bestCell_9 : decode cX5_bestCell 9 = .ok (.getfield 39, 3) := by decide +kernel
theorem dX5_bestCell_12 : decode cX5_bestCell 12 = .ok (.iload_n 2, 1) := by decide +kernel
theorem dX5_bestCell_13 : decode cX5_bestCell 13 = .ok (.aaload, 1) := by decide +kernel
theorem dX5_bestCell_14 : decode cX5_bestCell 14 = .ok (.invokevirtual 43, 3) := by decide +kernel
theorem dX5_bestCell_17 : decode cX5_bestCell 17 = .ok (.istore 4, 2) := by decide +kernel
theorem dX5_bestCell_19 : decode cX5_bestCell 19 = .ok (.aload_n 0, 1) := by decide +kernel
theorem dX5_bestCell_20 : decode cX5_bestCell 20 = .ok (.iconst (-1), 1) := by decide +kernel
theorem dX5_bestCell_21 : decode cX5_bestCell 21 = .ok (.putfield 48, 3) := by decide +kernel
theorem dX5_bestCell_24 : decode cX5_bestCell 24 = .ok (.iconst 1, 1) := by decide +kernel
theorem dX5_bestCell_25 : decode cX5_bestCell 25 = .ok (.istore 5, 2) := by decide +kernel
theorem dX5_bestCell_27 : decode cX5_bestCell 27 = .ok (.iload 5, 2) := by decide +kernel
theorem dX5_bestCell_29 : decode cX5_bestCell 29 = .ok (.aload_n 1, 1) := by decide +kernel
theorem dX5_bestCell_30 : decode cX5_bestCell 30 = .ok (.getfield 51, 3) := by decide +kernel
theorem dX5_bestCell_33 : decode cX5_bestCell 33 = .ok (.if_icmp .gt 101, 3) := by decide +kernel
theorem dX5_bestCell_36 : decode cX5_bestCell 36 = .ok (.iconst 0, 1) := by decide +kernel
theorem dX5_bestCell_37 : decode cX5_bestCell 37 = .ok (.istore 6, 2) := by decide +kernel
theorem dX5_bestCell_39 : decode cX5_bestCell 39 = .ok (.iload 6, 2) := by decide +kernel
theorem dX5_bestCell_41 : decode cX5_bestCell 41 = .ok (.bipush 7, 2) := by decide +kernel
theorem dX5_bestCell_43 : decode cX5_bestCell 43 = .ok (.if_icmp .ge 85, 3) := by decide +kernel
theorem dX5_bestCell_46 : decode cX5_bestCell 46 = .ok (.aload_n 1, 1) := by decide +kernel
theorem dX5_bestCell_47 : decode cX5_bestCell 47 = .ok (.iload 5, 2) := by decide +kernel
theorem dX5_bestCell_49 : decode cX5_bestCell 49 = .ok (.iload 6, 2) := by decide +kernel
theorem dX5_bestCell_51 : decode cX5_bestCell 51 = .ok (.invokevirtual 54, 3) := by decide +kernel
theorem dX5_bestCell_54 : decode cX5_bestCell 54 = .ok (.istore 7, 2) := by decide +kernel
theorem dX5_bestCell_56 : decode cX5_bestCell 56 = .ok (.iload 7, 2) := by decide +kernel
theorem dX5_bestCell_58 : decode cX5_bestCell 58 = .ok (.ifCond .lt 12, 3) := by decide +kernel
theorem dX5_bestCell_61 : decode cX5_bestCell 61 = .ok (.iload 7, 2) := by decide +kernel
theorem dX5_bestCell_63 : decode cX5_bestCell 63 = .ok (.iload_n 2, 1) := by decide +kernel
theorem dX5_bestCell_64 : decode cX5_bestCell 64 = .ok (.if_icmp .eq 6, 3) := by decide +kernel
theorem dX5_bestCell_67 : decode cX5_bestCell 67 = .ok (.goto 55, 3) := by decide +kernel
theorem dX5_bestCell_70 : decode cX5_bestCell 70 = .ok (.aload_n 0, 1) := by decide +kernel
theorem dX5_bestCell_71 : decode cX5_bestCell 71 = .ok (.getfield 12, 3) := by decide +kernel
theorem dX5_bestCell_74 : decode cX5_bestCell 74 = .ok (.getfield 39, 3) := by decide +kernel
theorem dX5_bestCell_77 : decode cX5_bestCell 77 = .ok (.iload_n 2, 1) := by decide +kernel
theorem dX5_bestCell_78 : decode cX5_bestCell 78 = .ok (.aaload, 1) := by decide +kernel
theorem dX5_bestCell_79 : decode cX5_bestCell 79 = .ok (.iload 5, 2) := by decide +kernel
theorem dX5_bestCell_81 : decode cX5_bestCell 81 = .ok (.iload 6, 2) := by decide +kernel
theorem dX5_bestCell_83 : decode cX5_bestCell 83 = .ok (.invokevirtual 58, 3) := by decide +kernel
theorem dX5_bestCell_86 : decode cX5_bestCell 86 = .ok (.aload_n 0, 1) := by decide +kernel
theorem dX5_bestCell_87 : decode cX5_bestCell 87 = .ok (.getfield 12, 3) := by decide +kernel
theorem dX5_bestCell_90 : decode cX5_bestCell 90 = .ok (.iload_n 2, 1) := by decide +kernel
theorem dX5_bestCell_91 : decode cX5_bestCell 91 = .ok (.iload_n 3, 1) := by decide +kernel
theorem dX5_bestCell_92 : decode cX5_bestCell 92 = .ok (.invokevirtual 62, 3) := by decide +kernel
theorem dX5_bestCell_95 : decode cX5_bestCell 95 = .ok (.istore 8, 2) := by decide +kernel
theorem dX5_bestCell_97 : decode cX5_bestCell 97 = .ok (.iload 8, 2) := by decide +kernel
theorem dX5_bestCell_99 : decode cX5_bestCell 99 = .ok (.aload_n 0, 1) := by decide +kernel
theorem dX5_bestCell_100 : decode cX5_bestCell 100 = .ok (.getfield 48, 3) := by decide +kernel
theorem dX5_bestCell_103 : decode cX5_bestCell 103 = .ok (.if_icmp .le 19, 3) := by decide +kernel
theorem dX5_bestCell_106 : decode cX5_bestCell 106 = .ok (.aload_n 0, 1) := by decide +kernel
theorem dX5_bestCell_107 : decode cX5_bestCell 107 = .ok (.iload 8, 2) := by decide +kernel
theorem dX5_bestCell_109 : decode cX5_bestCell 109 = .ok (.putfield 48, 3) := by decide +kernel
theorem dX5_bestCell_112 : decode cX5_bestCell 112 = .ok (.bipush 10, 2) := by decide +kernel
theorem dX5_bestCell_114 : decode cX5_bestCell 114 = .ok (.iload 5, 2) := by decide +kernel
theorem dX5_bestCell_116 : decode cX5_bestCell 116 = .ok (.imul, 1) := by decide +kernel
theorem dX5_bestCell_117 : decode cX5_bestCell 117 = .ok (.iload 6, 2) := by decide +kernel
theorem dX5_bestCell_119 : decode cX5_bestCell 119 = .ok (.iadd, 1) := by decide +kernel
theorem dX5_bestCell_120 : decode cX5_bestCell 120 = .ok (.istore 4, 2) := by decide +kernel
theorem dX5_bestCell_122 : decode cX5_bestCell 122 = .ok (.iinc 6 1, 3) := by decide +kernel
theorem dX5_bestCell_125 : decode cX5_bestCell 125 = .ok (.goto (-86), 3) := by decide +kernel
theorem dX5_bestCell_128 : decode cX5_bestCell 128 = .ok (.iinc 5 1, 3) := by decide +kernel
theorem dX5_bestCell_131 : decode cX5_bestCell 131 = .ok (.goto (-104), 3) := by decide +kernel
theorem dX5_bestCell_134 : decode cX5_bestCell 134 = .ok (.iload 4, 2) := by decide +kernel
theorem dX5_bestCell_136 : decode cX5_bestCell 136 = .ok (.ireturn, 1) := by decide +kernel
theorem dX5_sulkersNow_0 : decode cX5_sulkersNow 0 = .ok (.aload_n 0, 1) := by decide +kernel
theorem dX5_sulkersNow_1 : decode cX5_sulkersNow 1 = .ok (.getfield 12, 3) := by decide +kernel
theorem dX5_sulkersNow_4 : decode cX5_sulkersNow 4 = .ok (.aload_n 1, 1) := by decide +kernel
theorem dX5_sulkersNow_5 : decode cX5_sulkersNow 5 = .ok (.invokevirtual 18, 3) := by decide +kernel
theorem dX5_sulkersNow_8 : decode cX5_sulkersNow 8 = .ok (.aload_n 0, 1) := by decide +kernel
theorem dX5_sulkersNow_9 : decode cX5_sulkersNow 9 = .ok (.invokevirtual 65, 3) := by decide +kernel
theorem dX5_sulkersNow_12 : decode cX5_sulkersNow 12 = .ok (.ireturn, 1) := by decide +kernel
theorem dX5_sulkers_0 : decode cX5_sulkers 0 = .ok (.aload_n 0, 1) := by decide +kernel
theorem dX5_sulkers_1 : decode cX5_sulkers 1 = .ok (.getfield 12, 3) := by decide +kernel
theorem dX5_sulkers_4 : decode cX5_sulkers 4 = .ok (.getfield 32, 3) := by decide +kernel
theorem dX5_sulkers_7 : decode cX5_sulkers 7 = .ok (.istore_n 1, 1) := by decide +kernel
theorem dX5_sulkers_8 : decode cX5_sulkers 8 = .ok (.aload_n 0, 1) := by decide +kernel
theorem dX5_sulkers_9 : decode cX5_sulkers 9 = .ok (.getfield 12, 3) := by decide +kernel
theorem dX5_sulkers_12 : decode cX5_sulkers 12 = .ok (.iconst 0, 1) := by decide +kernel
theorem dX5_sulkers_13 : decode cX5_sulkers 13 = .ok (.invokevirtual 36, 3) := by decide +kernel
theorem dX5_sulkers_16 : decode cX5_sulkers 16 = .ok (.istore_n 2, 1) := by decide +kernel
theorem dX5_sulkers_17 : decode cX5_sulkers 17 = .ok (.iconst 0, 1) := by decide +kernel
theorem dX5_sulkers_18 : decode cX5_sulkers 18 = .ok (.istore_n 3, 1) := by decide +kernel
theorem dX5_sulkers_19 : decode cX5_sulkers 19 = .ok (.iconst 0, 1) := by decide +kernel
theorem dX5_sulkers_20 : decode cX5_sulkers 20 = .ok (.istore 4, 2) := by decide +kernel
theorem dX5_sulkers_22 : decode cX5_sulkers 22 = .ok (.iload 4, 2) := by decide +kernel
theorem dX5_sulkers_24 : decode cX5_sulkers 24 = .ok (.aload_n 0, 1) := by decide +kernel
theorem dX5_sulkers_25 : decode cX5_sulkers 25 = .ok (.getfield 12, 3) := by decide +kernel
theorem dX5_sulkers_28 : decode cX5_sulkers 28 = .ok (.getfield 68, 3) := by decide +kernel
theorem dX5_sulkers_31 : decode cX5_sulkers 31 = .ok (.if_icmp .ge 100, 3) := by decide +kernel
theorem dX5_sulkers_34 : decode cX5_sulkers 34 = .ok (.aload_n 0, 1) := by decide +kernel
theorem dX5_sulkers_35 : decode cX5_sulkers 35 = .ok (.getfield 12, 3) := by decide +kernel
theorem dX5_sulkers_38 : decode cX5_sulkers 38 = .ok (.iload_n 1, 1) := by decide +kernel
theorem dX5_sulkers_39 : decode cX5_sulkers 39 = .ok (.iconst 1, 1) := by decide +kernel
theorem dX5_sulkers_40 : decode cX5_sulkers 40 = .ok (.iload 4, 2) := by decide +kernel
theorem dX5_sulkers_42 : decode cX5_sulkers 42 = .ok (.ishl, 1) := by decide +kernel
theorem dX5_sulkers_43 : decode cX5_sulkers 43 = .ok (.ixor, 1) := by decide +kernel
theorem dX5_sulkers_44 : decode cX5_sulkers 44 = .ok (.putfield 32, 3) := by decide +kernel
theorem dX5_sulkers_47 : decode cX5_sulkers 47 = .ok (.iload_n 2, 1) := by decide +kernel
theorem dX5_sulkers_48 : decode cX5_sulkers 48 = .ok (.iload 4, 2) := by decide +kernel
theorem dX5_sulkers_50 : decode cX5_sulkers 50 = .ok (.if_icmp .ne 7, 3) := by decide +kernel
theorem dX5_sulkers_53 : decode cX5_sulkers 53 = .ok (.iconst 1, 1) := by decide +kernel
theorem dX5_sulkers_54 : decode cX5_sulkers 54 = .ok (.goto 4, 3) := by decide +kernel
theorem dX5_sulkers_57 : decode cX5_sulkers 57 = .ok (.iconst 0, 1) := by decide +kernel
theorem dX5_sulkers_58 : decode cX5_sulkers 58 = .ok (.istore 5, 2) := by decide +kernel
theorem dX5_sulkers_60 : decode cX5_sulkers 60 = .ok (.aload_n 0, 1) := by decide +kernel
theorem dX5_sulkers_61 : decode cX5_sulkers 61 = .ok (.getfield 12, 3) := by decide +kernel
theorem dX5_sulkers_64 : decode cX5_sulkers 64 = .ok (.iconst 0, 1) := by decide +kernel
theorem dX5_sulkers_65 : decode cX5_sulkers 65 = .ok (.invokevirtual 36, 3) := by decide +kernel
theorem dX5_sulkers_68 : decode cX5_sulkers 68 = .ok (.iload 4, 2) := by decide +kernel
theorem dX5_sulkers_70 : decode cX5_sulkers 70 = .ok (.if_icmp .ne 7, 3) := by decide +kernel
theorem dX5_sulkers_73 : decode cX5_sulkers 73 = .ok (.iconst 1, 1) := by decide +kernel
theorem dX5_sulkers_74 : decode cX5_sulkers 74 = .ok (.goto 4, 3) := by decide +kernel
theorem dX5_sulkers_77 : decode cX5_sulkers 77 = .ok (.iconst 0, 1) := by decide +kernel
theorem dX5_sulkers_78 : decode cX5_sulkers 78 = .ok (.istore 6, 2) := by decide +kernel
theorem dX5_sulkers_80 : decode cX5_sulkers 80 = .ok (.aload_n 0, 1) := by decide +kernel
theorem dX5_sulkers_81 : decode cX5_sulkers 81 = .ok (.getfield 12, 3) := by decide +kernel
theorem dX5_sulkers_84 : decode cX5_sulkers 84 = .ok (.getfield 39, 3) := by decide +kernel
theorem dX5_sulkers_87 : decode cX5_sulkers 87 = .ok (.iload 4, 2) := by decide +kernel
theorem dX5_sulkers_89 : decode cX5_sulkers 89 = .ok (.aaload, 1) := by decide +kernel
theorem dX5_sulkers_90 : decode cX5_sulkers 90 = .ok (.getfield 71, 3) := by decide +kernel
theorem dX5_sulkers_93 : decode cX5_sulkers 93 = .ok (.iconst 1, 1) := by decide +kernel
theorem dX5_sulkers_94 : decode cX5_sulkers 94 = .ok (.if_icmp .ne 7, 3) := by decide +kernel
theorem dX5_sulkers_97 : decode cX5_sulkers 97 = .ok (.iconst 1, 1) := by decide +kernel
theorem dX5_sulkers_98 : decode cX5_sulkers 98 = .ok (.goto 4, 3) := by decide +kernel
theorem dX5_sulkers_101 : decode cX5_sulkers 101 = .ok (.iconst 0, 1) := by decide +kernel
theorem dX5_sulkers_102 : decode cX5_sulkers 102 = .ok (.istore 7, 2) := by decide +kernel
theorem dX5_sulkers_104 : decode cX5_sulkers 104 = .ok (.iload 5, 2) := by decide +kernel
theorem dX5_sulkers_106 : decode cX5_sulkers 106 = .ok (.iload 6, 2) := by decide +kernel
theorem dX5_sulkers_108 : decode cX5_sulkers 108 = .ok (.if_icmp .eq 17, 3) := by decide +kernel
theorem dX5_sulkers_111 : decode cX5_sulkers 111 = .ok (.iload 6, 2) := by decide +kernel
theorem dX5_sulkers_113 : decode cX5_sulkers 113 = .ok (.iload 7, 2) := by decide +kernel
theorem dX5_sulkers_115 : decode cX5_sulkers 115 = .ok (.if_icmp .ne 10, 3) := by decide +kernel
theorem dX5_sulkers_118 : decode cX5_sulkers 118 = .ok (.iload_n 3, 1) := by decide +kernel
theorem dX5_sulkers_119 : decode cX5_sulkers 119 = .ok (.iconst 1, 1) := by decide +kernel
theorem dX5_sulkers_120 : decode cX5_sulkers 120 = .ok (.iload 4, 2) := by decide +kernel
theorem dX5_sulkers_122 : decode cX5_sulkers 122 = .ok (.ishl, 1) := by decide +kernel
theorem dX5_sulkers_123 : decode cX5_sulkers 123 = .ok (.ior, 1) := by decide +kernel
theorem dX5_sulkers_124 : decode cX5_sulkers 124 = .ok (.istore_n 3, 1) := by decide +kernel
theorem dX5_sulkers_125 : decode cX5_sulkers 125 = .ok (.iinc 4 1, 3) := by decide +kernel
theorem dX5_sulkers_128 : decode cX5_sulkers 128 = .ok (.goto (-106), 3) := by decide +kernel
theorem dX5_sulkers_131 : decode cX5_sulkers 131 = .ok (.aload_n 0, 1) := by decide +kernel
theorem dX5_sulkers_132 : decode cX5_sulkers 132 = .ok (.getfield 12, 3) := by decide +kernel
theorem dX5_sulkers_135 : decode cX5_sulkers 135 = .ok (.iload_n 1, 1) := by decide +kernel
theorem dX5_sulkers_136 : decode cX5_sulkers 136 = .ok (.putfield 32, 3) := by decide +kernel
theorem dX5_sulkers_139 : decode cX5_sulkers 139 = .ok (.iload_n 3, 1) := by decide +kernel
theorem dX5_sulkers_140 : decode cX5_sulkers 140 = .ok (.ireturn, 1) := by decide +kernel
theorem dX5_turnsToPeace_0 : decode cX5_turnsToPeace 0 = .ok (.aload_n 0, 1) := by decide +kernel
theorem dX5_turnsToPeace_1 : decode cX5_turnsToPeace 1 = .ok (.getfield 12, 3) := by decide +kernel
theorem dX5_turnsToPeace_4 : decode cX5_turnsToPeace 4 = .ok (.aload_n 1, 1) := by decide +kernel
theorem dX5_turnsToPeace_5 : decode cX5_turnsToPeace 5 = .ok (.invokevirtual 18, 3) := by decide +kernel
theorem dX5_turnsToPeace_8 : decode cX5_turnsToPeace 8 = .ok (.iconst 0, 1) := by decide +kernel
theorem dX5_turnsToPeace_9 : decode cX5_turnsToPeace 9 = .ok (.istore_n 2, 1) := by decide +kernel
theorem dX5_turnsToPeace_10 : decode cX5_turnsToPeace 10 = .ok (.iload_n 2, 1) := by decide +kernel
theorem dX5_turnsToPeace_11 : decode cX5_turnsToPeace 11 = .ok (.bipush 40, 2) := by decide +kernel
theorem dX5_turnsToPeace_13 : decode cX5_turnsToPeace 13 = .ok (.if_icmp .gt 36, 3) := by decide +kernel
theorem dX5_turnsToPeace_16 : decode cX5_turnsToPeace 16 = .ok (.aload_n 0, 1) := by decide +kernel
theorem dX5_turnsToPeace_17 : decode cX5_turnsToPeace 17 = .ok (.invokevirtual 65, 3) := by decide +kernel
theorem dX5_turnsToPeace_20 : decode cX5_turnsToPeace 20 = .ok (.istore_n 3, 1) := by decide +kernel
theorem dX5_turnsToPeace_21 : decode cX5_turnsToPeace 21 = .ok (.iload_n 3, 1) := by decide +kernel
theorem dX5_turnsToPeace_22 : decode cX5_turnsToPeace 22 = .ok (.ifCond .ne 5, 3) := by decide +kernel
theorem dX5_turnsToPeace_25 : decode cX5_turnsToPeace 25 = .ok (.iload_n 2, 1) := by decide +kernel
theorem dX5_turnsToPeace_26 : decode cX5_turnsToPeace 26 = .ok (.ireturn, 1) := by decide +kernel
theorem dX5_turnsToPeace_27 : decode cX5_turnsToPeace 27 = .ok (.aload_n 0, 1) := by decide +kernel
theorem dX5_turnsToPeace_28 : decode cX5_turnsToPeace 28 = .ok (.getfield 12, 3) := by decide +kernel
theorem dX5_turnsToPeace_31 : decode cX5_turnsToPeace 31 = .ok (.dup, 1) := by decide +kernel
theorem dX5_turnsToPeace_32 : decode cX5_turnsToPeace 32 = .ok (.getfield 32, 3) := by decide +kernel
theorem dX5_turnsToPeace_35 : decode cX5_turnsToPeace 35 = .ok (.iload_n 3, 1) := by decide +kernel
theorem dX5_turnsToPeace_36 : decode cX5_turnsToPeace 36 = .ok (.invokestatic 74, 3) := by decide +kernel
theorem dX5_turnsToPeace_39 : decode cX5_turnsToPeace 39 = .ok (.ixor, 1) := by decide +kernel
theorem dX5_turnsToPeace_40 : decode cX5_turnsToPeace 40 = .ok (.putfield 32, 3) := by decide +kernel
theorem dX5_turnsToPeace_43 : decode cX5_turnsToPeace 43 = .ok (.iinc 2 1, 3) := by decide +kernel
theorem dX5_turnsToPeace_46 : decode cX5_turnsToPeace 46 = .ok (.goto (-36), 3) := by decide +kernel
theorem dX5_turnsToPeace_49 : decode cX5_turnsToPeace 49 = .ok (.iconst (-1), 1) := by decide +kernel
theorem dX5_turnsToPeace_50 : decode cX5_turnsToPeace 50 = .ok (.ireturn, 1) := by decide +kernel
theorem dX5_lawsThatFit_0 : decode cX5_lawsThatFit 0 = .ok (.aload_n 0, 1) := by decide +kernel
theorem dX5_lawsThatFit_1 : decode cX5_lawsThatFit 1 = .ok (.getfield 12, 3) := by decide +kernel
theorem dX5_lawsThatFit_4 : decode cX5_lawsThatFit 4 = .ok (.aload_n 1, 1) := by decide +kernel
theorem dX5_lawsThatFit_5 : decode cX5_lawsThatFit 5 = .ok (.invokevirtual 18, 3) := by decide +kernel
theorem dX5_lawsThatFit_8 : decode cX5_lawsThatFit 8 = .ok (.iconst 0, 1) := by decide +kernel
theorem dX5_lawsThatFit_9 : decode cX5_lawsThatFit 9 = .ok (.istore 6, 2) := by decide +kernel
theorem dX5_lawsThatFit_11 : decode cX5_lawsThatFit 11 = .ok (.iconst 1, 1) := by decide +kernel
theorem dX5_lawsThatFit_12 : decode cX5_lawsThatFit 12 = .ok (.iload_n 2, 1) := by decide +kernel
theorem dX5_lawsThatFit_13 : decode cX5_lawsThatFit 13 = .ok (.iadd, 1) := by decide +kernel
theorem dX5_lawsThatFit_14 : decode cX5_lawsThatFit 14 = .ok (.istore 7, 2) := by decide +kernel
theorem dX5_lawsThatFit_16 : decode cX5_lawsThatFit 16 = .ok (.iload 7, 2) := by decide +kernel
theorem dX5_lawsThatFit_18 : decode cX5_lawsThatFit 18 = .ok (.iconst 0, 1) := by decide +kernel
theorem dX5_lawsThatFit_19 : decode cX5_lawsThatFit 19 = .ok (.getstatic 77, 3) := by decide +kernel
theorem dX5_lawsThatFit_22 : decode cX5_lawsThatFit 22 = .ok (.arraylength, 1) := by decide +kernel
theorem dX5_lawsThatFit_23 : decode cX5_lawsThatFit 23 = .ok (.iconst 1, 1) := by decide +kernel
theorem dX5_lawsThatFit_24 : decode cX5_lawsThatFit 24 = .ok (.isub, 1) := by decide +kernel
theorem dX5_lawsThatFit_25 : decode cX5_lawsThatFit 25 = .ok (.invokestatic 81, 3) := by decide +kernel
theorem dX5_lawsThatFit_28 : decode cX5_lawsThatFit 28 = .ok (.ifCond .ne 6, 3) := by decide +kernel
theorem dX5_lawsThatFit_31 : decode cX5_lawsThatFit 31 = .ok (.iload 6, 2) := by decide +kernel
theorem dX5_lawsThatFit_33 : decode cX5_lawsThatFit 33 = .ok (.ireturn, 1) := by decide +kernel
theorem dX5_lawsThatFit_34 : decode cX5_lawsThatFit 34 = .ok (.getstatic 77, 3) := by decide +kernel
theorem dX5_lawsThatFit_37 : decode cX5_lawsThatFit 37 = .ok (.iload 7, 2) := by decide +kernel
theorem dX5_lawsThatFit_39 : decode cX5_lawsThatFit 39 = .ok (.iaload, 1) := by decide +kernel
theorem dX5_lawsThatFit_40 : decode cX5_lawsThatFit 40 = .ok (.istore 8, 2) := by decide +kernel
theorem dX5_lawsThatFit_42 : decode cX5_lawsThatFit 42 = .ok (.iload 8, 2) := by decide +kernel
theorem dX5_lawsThatFit_44 : decode cX5_lawsThatFit 44 = .ok (.getstatic 85, 3) := by decide +kernel
theorem dX5_lawsThatFit_47 : decode cX5_lawsThatFit 47 = .ok (.iload 7, 2) := by decide +kernel
theorem dX5_lawsThatFit_49 : decode cX5_lawsThatFit 49 = .ok (.iaload, 1) := by decide +kernel
theorem dX5_lawsThatFit_50 : decode cX5_lawsThatFit 50 = .ok (.if_icmp .gt 41, 3) := by decide +kernel
theorem dX5_lawsThatFit_53 : decode cX5_lawsThatFit 53 = .ok (.aload_n 0, 1) := by decide +kernel
theorem dX5_lawsThatFit_54 : decode cX5_lawsThatFit 54 = .ok (.getfield 12, 3) := by decide +kernel
theorem dX5_lawsThatFit_57 : decode cX5_lawsThatFit 57 = .ok (.iload 7, 2) := by decide +kernel
theorem dX5_lawsThatFit_59 : decode cX5_lawsThatFit 59 = .ok (.iload 8, 2) := by decide +kernel
theorem dX5_lawsThatFit_61 : decode cX5_lawsThatFit 61 = .ok (.invokevirtual 88, 3) := by decide +kernel
theorem dX5_lawsThatFit_64 : decode cX5_lawsThatFit 64 = .ok (.aload_n 0, 1) := by decide +kernel
theorem dX5_lawsThatFit_65 : decode cX5_lawsThatFit 65 = .ok (.aload_n 3, 1) := by decide +kernel
theorem dX5_lawsThatFit_66 : decode cX5_lawsThatFit 66 = .ok (.iload 4, 2) := by decide +kernel
theorem dX5_lawsThatFit_68 : decode cX5_lawsThatFit 68 = .ok (.iload 5, 2) := by decide +kernel
theorem dX5_lawsThatFit_70 : decode cX5_lawsThatFit 70 = .ok (.invokevirtual 91, 3) := by decide +kernel
theorem dX5_lawsThatFit_73 : decode cX5_lawsThatFit 73 = .ok (.ifCond .eq 12, 3) := by decide +kernel
theorem dX5_lawsThatFit_76 : decode cX5_lawsThatFit 76 = .ok (.iload 6, 2) := by decide +kernel
theorem dX5_lawsThatFit_78 : decode cX5_lawsThatFit 78 = .ok (.iconst 1, 1) := by decide +kernel
theorem dX5_lawsThatFit_79 : decode cX5_lawsThatFit 79 = .ok (.iload 8, 2) := by decide +kernel
theorem dX5_lawsThatFit_81 : decode cX5_lawsThatFit 81 = .ok (.ishl, 1) := by decide +kernel
theorem dX5_lawsThatFit_82 : decode cX5_lawsThatFit 82 = .ok (.ior, 1) := by decide +kernel
theorem dX5_lawsThatFit_83 : decode cX5_lawsThatFit 83 = .ok (.istore 6, 2) := by decide +kernel
theorem dX5_lawsThatFit_85 : decode cX5_lawsThatFit 85 = .ok (.iinc 8 1, 3) := by decide +kernel
theorem dX5_lawsThatFit_88 : decode cX5_lawsThatFit 88 = .ok (.goto (-46), 3) := by decide +kernel
theorem dX5_lawsThatFit_91 : decode cX5_lawsThatFit 91 = .ok (.iload 6, 2) := by decide +kernel
theorem dX5_lawsThatFit_93 : decode cX5_lawsThatFit 93 = .ok (.ireturn, 1) := by decide +kernel
theorem dX5_kindsThatFit_0 : decode cX5_kindsThatFit 0 = .ok (.aload_n 0, 1) := by decide +kernel
theorem dX5_kindsThatFit_1 : decode cX5_kindsThatFit 1 = .ok (.getfield 12, 3) := by decide +kernel
theorem dX5_kindsThatFit_4 : decode cX5_kindsThatFit 4 = .ok (.aload_n 1, 1) := by decide +kernel
theorem dX5_kindsThatFit_5 : decode cX5_kindsThatFit 5 = .ok (.invokevirtual 18, 3) := by decide +kernel
theorem dX5_kindsThatFit_8 : decode cX5_kindsThatFit 8 = .ok (.iconst 0, 1) := by decide +kernel
theorem dX5_kindsThatFit_9 : decode cX5_kindsThatFit 9 = .ok (.istore 6, 2) := by decide +kernel
theorem dX5_kindsThatFit_11 : decode cX5_kindsThatFit 11 = .ok (.iconst 1, 1) := by decide +kernel
theorem dX5_kindsThatFit_12 : decode cX5_kindsThatFit 12 = .ok (.istore 7, 2) := by decide +kernel
theorem dX5_kindsThatFit_14 : decode cX5_kindsThatFit 14 = .ok (.iload 7, 2) := by decide +kernel
theorem dX5_kindsThatFit_16 : decode cX5_kindsThatFit 16 = .ok (.iconst 5, 1) := by decide +kernel
theorem dX5_kindsThatFit_17 : decode cX5_kindsThatFit 17 = .ok (.if_icmp .gt 44, 3) := by decide +kernel
theorem dX5_kindsThatFit_20 : decode cX5_kindsThatFit 20 = .ok (.aload_n 0, 1) := by decide +kernel
theorem dX5_kindsThatFit_21 : decode cX5_kindsThatFit 21 = .ok (.getfield 12, 3) := by decide +kernel
theorem dX5_kindsThatFit_24 : decode cX5_kindsThatFit 24 = .ok (.getfield 39, 3) := by decide +kernel
theorem dX5_kindsThatFit_27 : decode cX5_kindsThatFit 27 = .ok (.iload_n 2, 1) := by decide +kernel
theorem dX5_kindsThatFit_28 : decode cX5_kindsThatFit 28 = .ok (.aaload, 1) := by decide +kernel
theorem dX5_kindsThatFit_29 : decode cX5_kindsThatFit 29 = .ok (.iload 7, 2) := by decide +kernel
theorem dX5_kindsThatFit_31 : decode cX5_kindsThatFit 31 = .ok (.putfield 95, 3) := by decide +kernel
theorem dX5_kindsThatFit_34 : decode cX5_kindsThatFit 34 = .ok (.aload_n 0, 1) := by decide +kernel
theorem dX5_kindsThatFit_35 : decode cX5_kindsThatFit 35 = .ok (.aload_n 3, 1) := by decide +kernel
theorem dX5_kindsThatFit_36 : decode cX5_kindsThatFit 36 = .ok (.iload 4, 2) := by decide +kernel
theorem dX5_kindsThatFit_38 : decode cX5_kindsThatFit 38 = .ok (.iload 5, 2) := by decide +kernel
theorem dX5_kindsThatFit_40 : decode cX5_kindsThatFit 40 = .ok (.invokevirtual 91, 3) := by decide +kernel
theorem dX5_kindsThatFit_43 : decode cX5_kindsThatFit 43 = .ok (.ifCond .eq 12, 3) := by decide +kernel
theorem dX5_kindsThatFit_46 : decode cX5_kindsThatFit 46 = .ok (.iload 6, 2) := by decide +kernel
theorem dX5_kindsThatFit_48 : decode cX5_kindsThatFit 48 = .ok (.iconst 1, 1) := by decide +kernel
theorem dX5_kindsThatFit_49 : decode cX5_kindsThatFit 49 = .ok (.iload 7, 2) := by decide +kernel
theorem dX5_kindsThatFit_51 : decode cX5_kindsThatFit 51 = .ok (.ishl, 1) := by decide +kernel
theorem dX5_kindsThatFit_52 : decode cX5_kindsThatFit 52 = .ok (.ior, 1) := by decide +kernel
theorem dX5_kindsThatFit_53 : decode cX5_kindsThatFit 53 = .ok (.istore 6, 2) := by decide +kernel
theorem dX5_kindsThatFit_55 : decode cX5_kindsThatFit 55 = .ok (.iinc 7 1, 3) := by decide +kernel
theorem dX5_kindsThatFit_58 : decode cX5_kindsThatFit 58 = .ok (.goto (-44), 3) := by decide +kernel
theorem dX5_kindsThatFit_61 : decode cX5_kindsThatFit 61 = .ok (.iload 6, 2) := by decide +kernel
theorem dX5_kindsThatFit_63 : decode cX5_kindsThatFit 63 = .ok (.ireturn, 1) := by decide +kernel
theorem dX5_fits_0 : decode cX5_fits 0 = .ok (.iconst 0, 1) := by decide +kernel
theorem dX5_fits_1 : decode cX5_fits 1 = .ok (.istore 4, 2) := by decide +kernel
theorem dX5_fits_3 : decode cX5_fits 3 = .ok (.iload 4, 2) := by decide +kernel
theorem dX5_fits_5 : decode cX5_fits 5 = .ok (.iload_n 3, 1) := by decide +kernel
theorem dX5_fits_6 : decode cX5_fits 6 = .ok (.if_icmp .ge 32, 3) := by decide +kernel
theorem dX5_fits_9 : decode cX5_fits 9 = .ok (.aload_n 0, 1) := by decide +kernel
theorem dX5_fits_10 : decode cX5_fits 10 = .ok (.getfield 12, 3) := by decide +kernel
theorem dX5_fits_13 : decode cX5_fits 13 = .ok (.iload 4, 2) := by decide +kernel
theorem dX5_fits_15 : decode cX5_fits 15 = .ok (.invokevirtual 36, 3) := by decide +kernel
theorem dX5_fits_18 : decode cX5_fits 18 = .ok (.aload_n 1, 1) := by decide +kernel
theorem dX5_fits_19 : decode cX5_fits 19 = .ok (.getfield 98, 3) := by decide +kernel
theorem dX5_fits_22 : decode cX5_fits 22 = .ok (.iload_n 2, 1) := by decide +kernel
theorem dX5_fits_23 : decode cX5_fits 23 = .ok (.iload 4, 2) := by decide +kernel
theorem dX5_fits_25 : decode cX5_fits 25 = .ok (.iadd, 1) := by decide +kernel
theorem dX5_fits_26 : decode cX5_fits 26 = .ok (.iaload, 1) := by decide +kernel
theorem dX5_fits_27 : decode cX5_fits 27 = .ok (.if_icmp .eq 5, 3) := by decide +kernel
theorem dX5_fits_30 : decode cX5_fits 30 = .ok (.iconst 0, 1) := by decide +kernel
theorem dX5_fits_31 : decode cX5_fits 31 = .ok (.ireturn, 1) := by decide +kernel
theorem dX5_fits_32 : decode cX5_fits 32 = .ok (.iinc 4 1, 3) := by decide +kernel
theorem dX5_fits_35 : decode cX5_fits 35 = .ok (.goto (-32), 3) := by decide +kernel
theorem dX5_fits_38 : decode cX5_fits 38 = .ok (.iconst 1, 1) := by decide +kernel
theorem dX5_fits_39 : decode cX5_fits 39 = .ok (.ireturn, 1) := by decide +kernel
theorem dX5_playedWays_0 : decode cX5_playedWays 0 = .ok (.aload_n 0, 1) := by decide +kernel
theorem dX5_playedWays_1 : decode cX5_playedWays 1 = .ok (.getfield 12, 3) := by decide +kernel
theorem dX5_playedWays_4 : decode cX5_playedWays 4 = .ok (.aload_n 1, 1) := by decide +kernel
theorem dX5_playedWays_5 : decode cX5_playedWays 5 = .ok (.invokevirtual 18, 3) := by decide +kernel
theorem dX5_playedWays_8 : decode cX5_playedWays 8 = .ok (.iconst 0, 1) := by decide +kernel
theorem dX5_playedWays_9 : decode cX5_playedWays 9 = .ok (.istore 4, 2) := by decide +kernel
theorem dX5_playedWays_11 : decode cX5_playedWays 11 = .ok (.iconst 0, 1) := by decide +kernel
theorem dX5_playedWays_12 : decode cX5_playedWays 12 = .ok (.istore 5, 2) := by decide +kernel
theorem dX5_playedWays_14 : decode cX5_playedWays 14 = .ok (.iload 5, 2) := by decide +kernel
theorem dX5_playedWays_16 : decode cX5_playedWays 16 = .ok (.aload_n 1, 1) := by decide +kernel
theorem dX5_playedWays_17 : decode cX5_playedWays 17 = .ok (.invokevirtual 22, 3) := by decide +kernel
theorem dX5_playedWays_20 : decode cX5_playedWays 20 = .ok (.if_icmp .gt 68, 3) := by decide +kernel
theorem dX5_playedWays_23 : decode cX5_playedWays 23 = .ok (.aload_n 0, 1) := by decide +kernel
theorem dX5_playedWays_24 : decode cX5_playedWays 24 = .ok (.getfield 12, 3) := by decide +kernel
theorem dX5_playedWays_27 : decode cX5_playedWays 27 = .ok (.aload_n 1, 1) := by decide +kernel
theorem dX5_playedWays_28 : decode cX5_playedWays 28 = .ok (.getfield 32, 3) := by decide +kernel
theorem dX5_playedWays_31 : decode cX5_playedWays 31 = .ok (.iload 5, 2) := by decide +kernel
theorem dX5_playedWays_33 : decode cX5_playedWays 33 = .ok (.ixor, 1) := by decide +kernel
theorem dX5_playedWays_34 : decode cX5_playedWays 34 = .ok (.putfield 32, 3) := by decide +kernel
theorem dX5_playedWays_37 : decode cX5_playedWays 37 = .ok (.aload_n 0, 1) := by decide +kernel
