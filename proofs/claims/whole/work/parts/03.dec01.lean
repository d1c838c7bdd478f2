theorem dX5_playedWays_38 : decode cX5_playedWays 38 = .ok (.getfield 12, 3) := by decide +kernel
theorem dX5_playedWays_41 : decode cX5_playedWays 41 = .ok (.iconst 0, 1) := by decide +kernel
theorem dX5_playedWays_42 : decode cX5_playedWays 42 = .ok (.invokevirtual 36, 3) := by decide +kernel
theorem dX5_playedWays_45 : decode cX5_playedWays 45 = .ok (.iload_n 2, 1) := by decide +kernel
theorem dX5_playedWays_46 : decode cX5_playedWays 46 = .ok (.if_icmp .ne 36, 3) := by decide +kernel
theorem dX5_playedWays_49 : decode cX5_playedWays 49 = .ok (.iload 5, 2) := by decide +kernel
theorem dX5_playedWays_51 : decode cX5_playedWays 51 = .ok (.invokestatic 26, 3) := by decide +kernel
theorem dX5_playedWays_54 : decode cX5_playedWays 54 = .ok (.istore 6, 2) := by decide +kernel
theorem dX5_playedWays_56 : decode cX5_playedWays 56 = .ok (.iload 4, 2) := by decide +kernel
theorem dX5_playedWays_58 : decode cX5_playedWays 58 = .ok (.iload_n 3, 1) := by decide +kernel
theorem dX5_playedWays_59 : decode cX5_playedWays 59 = .ok (.iload 6, 2) := by decide +kernel
theorem dX5_playedWays_61 : decode cX5_playedWays 61 = .ok (.invokestatic 103, 3) := by decide +kernel
theorem dX5_playedWays_64 : decode cX5_playedWays 64 = .ok (.bipush 10, 2) := by decide +kernel
theorem dX5_playedWays_66 : decode cX5_playedWays 66 = .ok (.iload_n 3, 1) := by decide +kernel
theorem dX5_playedWays_67 : decode cX5_playedWays 67 = .ok (.isub, 1) := by decide +kernel
theorem dX5_playedWays_68 : decode cX5_playedWays 68 = .ok (.aload_n 1, 1) := by decide +kernel
theorem dX5_playedWays_69 : decode cX5_playedWays 69 = .ok (.getfield 68, 3) := by decide +kernel
theorem dX5_playedWays_72 : decode cX5_playedWays 72 = .ok (.iload 6, 2) := by decide +kernel
theorem dX5_playedWays_74 : decode cX5_playedWays 74 = .ok (.isub, 1) := by decide +kernel
theorem dX5_playedWays_75 : decode cX5_playedWays 75 = .ok (.invokestatic 103, 3) := by decide +kernel
theorem dX5_playedWays_78 : decode cX5_playedWays 78 = .ok (.imul, 1) := by decide +kernel
theorem dX5_playedWays_79 : decode cX5_playedWays 79 = .ok (.iadd, 1) := by decide +kernel
theorem dX5_playedWays_80 : decode cX5_playedWays 80 = .ok (.istore 4, 2) := by decide +kernel
theorem dX5_playedWays_82 : decode cX5_playedWays 82 = .ok (.iinc 5 1, 3) := by decide +kernel
theorem dX5_playedWays_85 : decode cX5_playedWays 85 = .ok (.goto (-71), 3) := by decide +kernel
theorem dX5_playedWays_88 : decode cX5_playedWays 88 = .ok (.iload 4, 2) := by decide +kernel
theorem dX5_playedWays_90 : decode cX5_playedWays 90 = .ok (.ireturn, 1) := by decide +kernel
theorem dX5_drawCentury_0 : decode cX5_drawCentury 0 = .ok (.aload_n 0, 1) := by decide +kernel
theorem dX5_drawCentury_1 : decode cX5_drawCentury 1 = .ok (.getfield 12, 3) := by decide +kernel
theorem dX5_drawCentury_4 : decode cX5_drawCentury 4 = .ok (.aload_n 1, 1) := by decide +kernel
theorem dX5_drawCentury_5 : decode cX5_drawCentury 5 = .ok (.invokevirtual 18, 3) := by decide +kernel
theorem dX5_drawCentury_8 : decode cX5_drawCentury 8 = .ok (.aload_n 0, 1) := by decide +kernel
theorem dX5_drawCentury_9 : decode cX5_drawCentury 9 = .ok (.getfield 12, 3) := by decide +kernel
theorem dX5_drawCentury_12 : decode cX5_drawCentury 12 = .ok (.invokevirtual 106, 3) := by decide +kernel
theorem dX5_drawCentury_15 : decode cX5_drawCentury 15 = .ok (.iload_n 3, 1) := by decide +kernel
theorem dX5_drawCentury_16 : decode cX5_drawCentury 16 = .ok (.i2l, 1) := by decide +kernel
theorem dX5_drawCentury_17 : decode cX5_drawCentury 17 = .ok (.lstore 4, 2) := by decide +kernel
theorem dX5_drawCentury_19 : decode cX5_drawCentury 19 = .ok (.iconst 0, 1) := by decide +kernel
theorem dX5_drawCentury_20 : decode cX5_drawCentury 20 = .ok (.istore 6, 2) := by decide +kernel
theorem dX5_drawCentury_22 : decode cX5_drawCentury 22 = .ok (.iload 6, 2) := by decide +kernel
theorem dX5_drawCentury_24 : decode cX5_drawCentury 24 = .ok (.iload_n 2, 1) := by decide +kernel
theorem dX5_drawCentury_25 : decode cX5_drawCentury 25 = .ok (.if_icmp .ge 108, 3) := by decide +kernel
theorem dX5_drawCentury_28 : decode cX5_drawCentury 28 = .ok (.lload 4, 2) := by decide +kernel
theorem dX5_drawCentury_30 : decode cX5_drawCentury 30 = .ok (.ldc2_w 109, 3) := by decide +kernel
theorem dX5_drawCentury_33 : decode cX5_drawCentury 33 = .ok (.lmul, 1) := by decide +kernel
theorem dX5_drawCentury_34 : decode cX5_drawCentury 34 = .ok (.ldc2_w 111, 3) := by decide +kernel
theorem dX5_drawCentury_37 : decode cX5_drawCentury 37 = .ok (.lrem, 1) := by decide +kernel
theorem dX5_drawCentury_38 : decode cX5_drawCentury 38 = .ok (.lstore 4, 2) := by decide +kernel
theorem dX5_drawCentury_40 : decode cX5_drawCentury 40 = .ok (.aload_n 0, 1) := by decide +kernel
theorem dX5_drawCentury_41 : decode cX5_drawCentury 41 = .ok (.getfield 12, 3) := by decide +kernel
theorem dX5_drawCentury_44 : decode cX5_drawCentury 44 = .ok (.getfield 68, 3) := by decide +kernel
theorem dX5_drawCentury_47 : decode cX5_drawCentury 47 = .ok (.ifCond .le 40, 3) := by decide +kernel
theorem dX5_drawCentury_50 : decode cX5_drawCentury 50 = .ok (.lload 4, 2) := by decide +kernel
theorem dX5_drawCentury_52 : decode cX5_drawCentury 52 = .ok (.ldc2_w 113, 3) := by decide +kernel
theorem dX5_drawCentury_55 : decode cX5_drawCentury 55 = .ok (.lrem, 1) := by decide +kernel
theorem dX5_drawCentury_56 : decode cX5_drawCentury 56 = .ok (.lconst 0, 1) := by decide +kernel
theorem dX5_drawCentury_57 : decode cX5_drawCentury 57 = .ok (.lcmp, 1) := by decide +kernel
theorem dX5_drawCentury_58 : decode cX5_drawCentury 58 = .ok (.ifCond .ne 29, 3) := by decide +kernel
theorem dX5_drawCentury_61 : decode cX5_drawCentury 61 = .ok (.aload_n 0, 1) := by decide +kernel
theorem dX5_drawCentury_62 : decode cX5_drawCentury 62 = .ok (.getfield 12, 3) := by decide +kernel
theorem dX5_drawCentury_65 : decode cX5_drawCentury 65 = .ok (.dup, 1) := by decide +kernel
theorem dX5_drawCentury_66 : decode cX5_drawCentury 66 = .ok (.getfield 32, 3) := by decide +kernel
theorem dX5_drawCentury_69 : decode cX5_drawCentury 69 = .ok (.iconst 1, 1) := by decide +kernel
theorem dX5_drawCentury_70 : decode cX5_drawCentury 70 = .ok (.lload 4, 2) := by decide +kernel
theorem dX5_drawCentury_72 : decode cX5_drawCentury 72 = .ok (.aload_n 0, 1) := by decide +kernel
theorem dX5_drawCentury_73 : decode cX5_drawCentury 73 = .ok (.getfield 12, 3) := by decide +kernel
theorem dX5_drawCentury_76 : decode cX5_drawCentury 76 = .ok (.getfield 68, 3) := by decide +kernel
theorem dX5_drawCentury_79 : decode cX5_drawCentury 79 = .ok (.i2l, 1) := by decide +kernel
theorem dX5_drawCentury_80 : decode cX5_drawCentury 80 = .ok (.lrem, 1) := by decide +kernel
theorem dX5_drawCentury_81 : decode cX5_drawCentury 81 = .ok (.l2i, 1) := by decide +kernel
theorem dX5_drawCentury_82 : decode cX5_drawCentury 82 = .ok (.ishl, 1) := by decide +kernel
theorem dX5_drawCentury_83 : decode cX5_drawCentury 83 = .ok (.ixor, 1) := by decide +kernel
theorem dX5_drawCentury_84 : decode cX5_drawCentury 84 = .ok (.putfield 32, 3) := by decide +kernel
theorem dX5_drawCentury_87 : decode cX5_drawCentury 87 = .ok (.aload_n 0, 1) := by decide +kernel
theorem dX5_drawCentury_88 : decode cX5_drawCentury 88 = .ok (.getfield 12, 3) := by decide +kernel
theorem dX5_drawCentury_91 : decode cX5_drawCentury 91 = .ok (.lload 4, 2) := by decide +kernel
theorem dX5_drawCentury_93 : decode cX5_drawCentury 93 = .ok (.ldc2_w 115, 3) := by decide +kernel
theorem dX5_drawCentury_96 : decode cX5_drawCentury 96 = .ok (.lrem, 1) := by decide +kernel
theorem dX5_drawCentury_97 : decode cX5_drawCentury 97 = .ok (.l2i, 1) := by decide +kernel
theorem dX5_drawCentury_98 : decode cX5_drawCentury 98 = .ok (.invokevirtual 117, 3) := by decide +kernel
theorem dX5_drawCentury_101 : decode cX5_drawCentury 101 = .ok (.istore 7, 2) := by decide +kernel
theorem dX5_drawCentury_103 : decode cX5_drawCentury 103 = .ok (.iload 7, 2) := by decide +kernel
theorem dX5_drawCentury_105 : decode cX5_drawCentury 105 = .ok (.ifCond .lt 22, 3) := by decide +kernel
theorem dX5_drawCentury_108 : decode cX5_drawCentury 108 = .ok (.aload_n 0, 1) := by decide +kernel
theorem dX5_drawCentury_109 : decode cX5_drawCentury 109 = .ok (.getfield 12, 3) := by decide +kernel
theorem dX5_drawCentury_112 : decode cX5_drawCentury 112 = .ok (.getfield 39, 3) := by decide +kernel
theorem dX5_drawCentury_115 : decode cX5_drawCentury 115 = .ok (.iload 7, 2) := by decide +kernel
theorem dX5_drawCentury_117 : decode cX5_drawCentury 117 = .ok (.aaload, 1) := by decide +kernel
theorem dX5_drawCentury_118 : decode cX5_drawCentury 118 = .ok (.dup, 1) := by decide +kernel
theorem dX5_drawCentury_119 : decode cX5_drawCentury 119 = .ok (.getfield 120, 3) := by decide +kernel
theorem dX5_drawCentury_122 : decode cX5_drawCentury 122 = .ok (.iconst 1, 1) := by decide +kernel
theorem dX5_drawCentury_123 : decode cX5_drawCentury 123 = .ok (.iadd, 1) := by decide +kernel
theorem dX5_drawCentury_124 : decode cX5_drawCentury 124 = .ok (.putfield 120, 3) := by decide +kernel
theorem dX5_drawCentury_127 : decode cX5_drawCentury 127 = .ok (.iinc 6 1, 3) := by decide +kernel
theorem dX5_drawCentury_130 : decode cX5_drawCentury 130 = .ok (.goto (-108), 3) := by decide +kernel
theorem dX5_drawCentury_133 : decode cX5_drawCentury 133 = .ok (.return_, 1) := by decide +kernel
theorem dX6_init_0 : decode cX6_init 0 = .ok (.aload_n 0, 1) := by decide +kernel
theorem dX6_init_1 : decode cX6_init 1 = .ok (.invokespecial 3, 3) := by decide +kernel
theorem dX6_init_4 : decode cX6_init 4 = .ok (.aload_n 0, 1) := by decide +kernel
theorem dX6_init_5 : decode cX6_init 5 = .ok (.bipush 100, 2) := by decide +kernel
theorem dX6_init_7 : decode cX6_init 7 = .ok (.newarray .int, 2) := by decide +kernel
theorem dX6_init_9 : decode cX6_init 9 = .ok (.putfield 9, 3) := by decide +kernel
theorem dX6_init_12 : decode cX6_init 12 = .ok (.return_, 1) := by decide +kernel
theorem dX6_append_0 : decode cX6_append 0 = .ok (.aload_n 0, 1) := by decide +kernel
theorem dX6_append_1 : decode cX6_append 1 = .ok (.getfield 15, 3) := by decide +kernel
theorem dX6_append_4 : decode cX6_append 4 = .ok (.bipush 100, 2) := by decide +kernel
theorem dX6_append_6 : decode cX6_append 6 = .ok (.if_icmp .lt 5, 3) := by decide +kernel
theorem dX6_append_9 : decode cX6_append 9 = .ok (.iconst 0, 1) := by decide +kernel
theorem dX6_append_10 : decode cX6_append 10 = .ok (.ireturn, 1) := by decide +kernel
theorem dX6_append_11 : decode cX6_append 11 = .ok (.aload_n 0, 1) := by decide +kernel
theorem dX6_append_12 : decode cX6_append 12 = .ok (.getfield 9, 3) := by decide +kernel
theorem dX6_append_15 : decode cX6_append 15 = .ok (.aload_n 0, 1) := by decide +kernel
theorem dX6_append_16 : decode cX6_append 16 = .ok (.getfield 15, 3) := by decide +kernel
theorem dX6_append_19 : decode cX6_append 19 = .ok (.iload_n 1, 1) := by decide +kernel
theorem dX6_append_20 : decode cX6_append 20 = .ok (.iastore, 1) := by decide +kernel
theorem dX6_append_21 : decode cX6_append 21 = .ok (.aload_n 0, 1) := by decide +kernel
theorem dX6_append_22 : decode cX6_append 22 = .ok (.dup, 1) := by decide +kernel
theorem dX6_append_23 : decode cX6_append 23 = .ok (.getfield 15, 3) := by decide +kernel
theorem dX6_append_26 : decode cX6_append 26 = .ok (.iconst 1, 1) := by decide +kernel
theorem dX6_append_27 : decode cX6_append 27 = .ok (.iadd, 1) := by decide +kernel
theorem dX6_append_28 : decode cX6_append 28 = .ok (.putfield 15, 3) := by decide +kernel
theorem dX6_append_31 : decode cX6_append 31 = .ok (.iconst 1, 1) := by decide +kernel
theorem dX6_append_32 : decode cX6_append 32 = .ok (.ireturn, 1) := by decide +kernel
theorem dX6_readInto_0 : decode cX6_readInto 0 = .ok (.aload_n 0, 1) := by decide +kernel
theorem dX6_readInto_1 : decode cX6_readInto 1 = .ok (.iconst 0, 1) := by decide +kernel
theorem dX6_readInto_2 : decode cX6_readInto 2 = .ok (.putfield 19, 3) := by decide +kernel
theorem dX6_readInto_5 : decode cX6_readInto 5 = .ok (.aload_n 0, 1) := by decide +kernel
theorem dX6_readInto_6 : decode cX6_readInto 6 = .ok (.iconst 0, 1) := by decide +kernel
theorem dX6_readInto_7 : decode cX6_readInto 7 = .ok (.putfield 22, 3) := by decide +kernel
theorem dX6_readInto_10 : decode cX6_readInto 10 = .ok (.aload_n 0, 1) := by decide +kernel
theorem dX6_readInto_11 : decode cX6_readInto 11 = .ok (.iconst 0, 1) := by decide +kernel
theorem dX6_readInto_12 : decode cX6_readInto 12 = .ok (.putfield 25, 3) := by decide +kernel
theorem dX6_readInto_15 : decode cX6_readInto 15 = .ok (.aload_n 1, 1) := by decide +kernel
theorem dX6_readInto_16 : decode cX6_readInto 16 = .ok (.invokevirtual 28, 3) := by decide +kernel
theorem dX6_readInto_19 : decode cX6_readInto 19 = .ok (.aload_n 0, 1) := by decide +kernel
theorem dX6_readInto_20 : decode cX6_readInto 20 = .ok (.aload_n 1, 1) := by decide +kernel
theorem dX6_readInto_21 : decode cX6_readInto 21 = .ok (.invokevirtual 33, 3) := by decide +kernel
theorem dX6_readInto_24 : decode cX6_readInto 24 = .ok (.istore_n 2, 1) := by decide +kernel
theorem dX6_readInto_25 : decode cX6_readInto 25 = .ok (.iconst 0, 1) := by decide +kernel
theorem dX6_readInto_26 : decode cX6_readInto 26 = .ok (.istore_n 3, 1) := by decide +kernel
theorem dX6_readInto_27 : decode cX6_readInto 27 = .ok (.iload_n 3, 1) := by decide +kernel
theorem dX6_readInto_28 : decode cX6_readInto 28 = .ok (.bipush 100, 2) := by decide +kernel
theorem dX6_readInto_30 : decode cX6_readInto 30 = .ok (.if_icmp .ge 30, 3) := by decide +kernel
theorem dX6_readInto_33 : decode cX6_readInto 33 = .ok (.iload_n 2, 1) := by decide +kernel
theorem dX6_readInto_34 : decode cX6_readInto 34 = .ok (.ifCond .eq 26, 3) := by decide +kernel
theorem dX6_readInto_37 : decode cX6_readInto 37 = .ok (.aload_n 0, 1) := by decide +kernel
theorem dX6_readInto_38 : decode cX6_readInto 38 = .ok (.getfield 19, 3) := by decide +kernel
theorem dX6_readInto_41 : decode cX6_readInto 41 = .ok (.aload_n 0, 1) := by decide +kernel
theorem dX6_readInto_42 : decode cX6_readInto 42 = .ok (.getfield 15, 3) := by decide +kernel
theorem dX6_readInto_45 : decode cX6_readInto 45 = .ok (.if_icmp .ge 15, 3) := by decide +kernel
theorem dX6_readInto_48 : decode cX6_readInto 48 = .ok (.aload_n 0, 1) := by decide +kernel
theorem dX6_readInto_49 : decode cX6_readInto 49 = .ok (.aload_n 1, 1) := by decide +kernel
theorem dX6_readInto_50 : decode cX6_readInto 50 = .ok (.invokevirtual 37, 3) := by decide +kernel
theorem dX6_readInto_53 : decode cX6_readInto 53 = .ok (.istore_n 2, 1) := by decide +kernel
theorem dX6_readInto_54 : decode cX6_readInto 54 = .ok (.iinc 3 1, 3) := by decide +kernel
theorem dX6_readInto_57 : decode cX6_readInto 57 = .ok (.goto (-30), 3) := by decide +kernel
theorem dX6_readInto_60 : decode cX6_readInto 60 = .ok (.aload_n 1, 1) := by decide +kernel
theorem dX6_readInto_61 : decode cX6_readInto 61 = .ok (.iload_n 2, 1) := by decide +kernel
theorem dX6_readInto_62 : decode cX6_readInto 62 = .ok (.putfield 40, 3) := by decide +kernel
theorem dX6_readInto_65 : decode cX6_readInto 65 = .ok (.iload_n 2, 1) := by decide +kernel
theorem dX6_readInto_66 : decode cX6_readInto 66 = .ok (.ireturn, 1) := by decide +kernel
theorem dX6_readLaw_0 : decode cX6_readLaw 0 = .ok (.aload_n 0, 1) := by decide +kernel
theorem dX6_readLaw_1 : decode cX6_readLaw 1 = .ok (.bipush 99, 2) := by decide +kernel
theorem dX6_readLaw_3 : decode cX6_readLaw 3 = .ok (.invokevirtual 44, 3) := by decide +kernel
theorem dX6_readLaw_6 : decode cX6_readLaw 6 = .ok (.istore_n 2, 1) := by decide +kernel
theorem dX6_readLaw_7 : decode cX6_readLaw 7 = .ok (.iconst 0, 1) := by decide +kernel
theorem dX6_readLaw_8 : decode cX6_readLaw 8 = .ok (.istore_n 3, 1) := by decide +kernel
theorem dX6_readLaw_9 : decode cX6_readLaw 9 = .ok (.iload_n 3, 1) := by decide +kernel
theorem dX6_readLaw_10 : decode cX6_readLaw 10 = .ok (.getstatic 48, 3) := by decide +kernel
theorem dX6_readLaw_13 : decode cX6_readLaw 13 = .ok (.arraylength, 1) := by decide +kernel
theorem dX6_readLaw_14 : decode cX6_readLaw 14 = .ok (.if_icmp .ge 71, 3) := by decide +kernel
theorem dX6_readLaw_17 : decode cX6_readLaw 17 = .ok (.iload_n 2, 1) := by decide +kernel
theorem dX6_readLaw_18 : decode cX6_readLaw 18 = .ok (.ifCond .eq 67, 3) := by decide +kernel
theorem dX6_readLaw_21 : decode cX6_readLaw 21 = .ok (.aload_n 0, 1) := by decide +kernel
theorem dX6_readLaw_22 : decode cX6_readLaw 22 = .ok (.getstatic 48, 3) := by decide +kernel
theorem dX6_readLaw_25 : decode cX6_readLaw 25 = .ok (.iload_n 3, 1) := by decide +kernel
theorem dX6_readLaw_26 : decode cX6_readLaw 26 = .ok (.iaload, 1) := by decide +kernel
theorem dX6_readLaw_27 : decode cX6_readLaw 27 = .ok (.getstatic 51, 3) := by decide +kernel
theorem dX6_readLaw_30 : decode cX6_readLaw 30 = .ok (.iload_n 3, 1) := by decide +kernel
theorem dX6_readLaw_31 : decode cX6_readLaw 31 = .ok (.iaload, 1) := by decide +kernel
theorem dX6_readLaw_32 : decode cX6_readLaw 32 = .ok (.invokevirtual 54, 3) := by decide +kernel
theorem dX6_readLaw_35 : decode cX6_readLaw 35 = .ok (.istore 4, 2) := by decide +kernel
theorem dX6_readLaw_37 : decode cX6_readLaw 37 = .ok (.aload_n 1, 1) := by decide +kernel
theorem dX6_readLaw_38 : decode cX6_readLaw 38 = .ok (.iload_n 3, 1) := by decide +kernel
theorem dX6_readLaw_39 : decode cX6_readLaw 39 = .ok (.iload 4, 2) := by decide +kernel
theorem dX6_readLaw_41 : decode cX6_readLaw 41 = .ok (.invokevirtual 58, 3) := by decide +kernel
theorem dX6_readLaw_44 : decode cX6_readLaw 44 = .ok (.iload 4, 2) := by decide +kernel
theorem dX6_readLaw_46 : decode cX6_readLaw 46 = .ok (.ifCond .lt 31, 3) := by decide +kernel
theorem dX6_readLaw_49 : decode cX6_readLaw 49 = .ok (.aload_n 0, 1) := by decide +kernel
theorem dX6_readLaw_50 : decode cX6_readLaw 50 = .ok (.iload_n 3, 1) := by decide +kernel
theorem dX6_readLaw_51 : decode cX6_readLaw 51 = .ok (.getstatic 48, 3) := by decide +kernel
theorem dX6_readLaw_54 : decode cX6_readLaw 54 = .ok (.arraylength, 1) := by decide +kernel
theorem dX6_readLaw_55 : decode cX6_readLaw 55 = .ok (.iconst 1, 1) := by decide +kernel
theorem dX6_readLaw_56 : decode cX6_readLaw 56 = .ok (.isub, 1) := by decide +kernel
theorem dX6_readLaw_57 : decode cX6_readLaw 57 = .ok (.if_icmp .ge 8, 3) := by decide +kernel
theorem dX6_readLaw_60 : decode cX6_readLaw 60 = .ok (.bipush 44, 2) := by decide +kernel
theorem dX6_readLaw_62 : decode cX6_readLaw 62 = .ok (.goto 5, 3) := by decide +kernel
theorem dX6_readLaw_65 : decode cX6_readLaw 65 = .ok (.bipush 59, 2) := by decide +kernel
theorem dX6_readLaw_67 : decode cX6_readLaw 67 = .ok (.invokevirtual 44, 3) := by decide +kernel
theorem dX6_readLaw_70 : decode cX6_readLaw 70 = .ok (.ifCond .eq 7, 3) := by decide +kernel
theorem dX6_readLaw_73 : decode cX6_readLaw 73 = .ok (.iconst 1, 1) := by decide +kernel
theorem dX6_readLaw_74 : decode cX6_readLaw 74 = .ok (.goto 4, 3) := by decide +kernel
theorem dX6_readLaw_77 : decode cX6_readLaw 77 = .ok (.iconst 0, 1) := by decide +kernel
theorem dX6_readLaw_78 : decode cX6_readLaw 78 = .ok (.istore_n 2, 1) := by decide +kernel
theorem dX6_readLaw_79 : decode cX6_readLaw 79 = .ok (.iinc 3 1, 3) := by decide +kernel
theorem dX6_readLaw_82 : decode cX6_readLaw 82 = .ok (.goto (-73), 3) := by decide +kernel
theorem dX6_readLaw_85 : decode cX6_readLaw 85 = .ok (.iload_n 2, 1) := by decide +kernel
theorem dX6_readLaw_86 : decode cX6_readLaw 86 = .ok (.ireturn, 1) := by decide +kernel
theorem dX6_readHouse_0 : decode cX6_readHouse 0 = .ok (.aload_n 0, 1) := by decide +kernel
theorem dX6_readHouse_1 : decode cX6_readHouse 1 = .ok (.aload_n 0, 1) := by decide +kernel
theorem dX6_readHouse_2 : decode cX6_readHouse 2 = .ok (.getfield 19, 3) := by decide +kernel
theorem dX6_readHouse_5 : decode cX6_readHouse 5 = .ok (.invokevirtual 62, 3) := by decide +kernel
theorem dX6_readHouse_8 : decode cX6_readHouse 8 = .ok (.invokestatic 66, 3) := by decide +kernel
theorem dX6_readHouse_11 : decode cX6_readHouse 11 = .ok (.istore_n 2, 1) := by decide +kernel
theorem dX6_readHouse_12 : decode cX6_readHouse 12 = .ok (.iload_n 2, 1) := by decide +kernel
theorem dX6_readHouse_13 : decode cX6_readHouse 13 = .ok (.ifCond .ne 13, 3) := by decide +kernel
theorem dX6_readHouse_16 : decode cX6_readHouse 16 = .ok (.aload_n 0, 1) := by decide +kernel
theorem dX6_readHouse_17 : decode cX6_readHouse 17 = .ok (.iconst 1, 1) := by decide +kernel
theorem dX6_readHouse_18 : decode cX6_readHouse 18 = .ok (.aload_n 0, 1) := by decide +kernel
theorem dX6_readHouse_19 : decode cX6_readHouse 19 = .ok (.getfield 19, 3) := by decide +kernel
theorem dX6_readHouse_22 : decode cX6_readHouse 22 = .ok (.invokevirtual 69, 3) := by decide +kernel
theorem dX6_readHouse_25 : decode cX6_readHouse 25 = .ok (.ireturn, 1) := by decide +kernel
theorem dX6_readHouse_26 : decode cX6_readHouse 26 = .ok (.aload_n 1, 1) := by decide +kernel
theorem dX6_readHouse_27 : decode cX6_readHouse 27 = .ok (.getfield 73, 3) := by decide +kernel
theorem dX6_readHouse_30 : decode cX6_readHouse 30 = .ok (.bipush 6, 2) := by decide +kernel
theorem dX6_readHouse_32 : decode cX6_readHouse 32 = .ok (.if_icmp .lt 13, 3) := by decide +kernel
theorem dX6_readHouse_35 : decode cX6_readHouse 35 = .ok (.aload_n 0, 1) := by decide +kernel
theorem dX6_readHouse_36 : decode cX6_readHouse 36 = .ok (.iconst 3, 1) := by decide +kernel
theorem dX6_readHouse_37 : decode cX6_readHouse 37 = .ok (.aload_n 0, 1) := by decide +kernel
theorem dX6_readHouse_38 : decode cX6_readHouse 38 = .ok (.getfield 19, 3) := by decide +kernel
theorem dX6_readHouse_41 : decode cX6_readHouse 41 = .ok (.invokevirtual 69, 3) := by decide +kernel
theorem dX6_readHouse_44 : decode cX6_readHouse 44 = .ok (.ireturn, 1) := by decide +kernel
theorem dX6_readHouse_45 : decode cX6_readHouse 45 = .ok (.aload_n 0, 1) := by decide +kernel
theorem dX6_readHouse_46 : decode cX6_readHouse 46 = .ok (.dup, 1) := by decide +kernel
theorem dX6_readHouse_47 : decode cX6_readHouse 47 = .ok (.getfield 19, 3) := by decide +kernel
theorem dX6_readHouse_50 : decode cX6_readHouse 50 = .ok (.iconst 1, 1) := by decide +kernel
theorem dX6_readHouse_51 : decode cX6_readHouse 51 = .ok (.iadd, 1) := by decide +kernel
theorem dX6_readHouse_52 : decode cX6_readHouse 52 = .ok (.putfield 19, 3) := by decide +kernel
theorem dX6_readHouse_55 : decode cX6_readHouse 55 = .ok (.aload_n 0, 1) := by decide +kernel
theorem dX6_readHouse_56 : decode cX6_readHouse 56 = .ok (.iconst 1, 1) := by decide +kernel
theorem dX6_readHouse_57 : decode cX6_readHouse 57 = .ok (.aload_n 1, 1) := by decide +kernel
theorem dX6_readHouse_58 : decode cX6_readHouse 58 = .ok (.getfield 76, 3) := by decide +kernel
theorem dX6_readHouse_61 : decode cX6_readHouse 61 = .ok (.invokevirtual 54, 3) := by decide +kernel
theorem dX6_readHouse_64 : decode cX6_readHouse 64 = .ok (.istore_n 3, 1) := by decide +kernel
theorem dX6_readHouse_65 : decode cX6_readHouse 65 = .ok (.iload_n 3, 1) := by decide +kernel
theorem dX6_readHouse_66 : decode cX6_readHouse 66 = .ok (.ifCond .lt 12, 3) := by decide +kernel
theorem dX6_readHouse_69 : decode cX6_readHouse 69 = .ok (.aload_n 0, 1) := by decide +kernel
theorem dX6_readHouse_70 : decode cX6_readHouse 70 = .ok (.bipush 44, 2) := by decide +kernel
theorem dX6_readHouse_72 : decode cX6_readHouse 72 = .ok (.invokevirtual 44, 3) := by decide +kernel
theorem dX6_readHouse_75 : decode cX6_readHouse 75 = .ok (.ifCond .ne 5, 3) := by decide +kernel
theorem dX6_readHouse_78 : decode cX6_readHouse 78 = .ok (.iconst 0, 1) := by decide +kernel
theorem dX6_readHouse_79 : decode cX6_readHouse 79 = .ok (.ireturn, 1) := by decide +kernel
theorem dX6_readHouse_80 : decode cX6_readHouse 80 = .ok (.aload_n 0, 1) := by decide +kernel
theorem dX6_readHouse_81 : decode cX6_readHouse 81 = .ok (.getfield 19, 3) := by decide +kernel
theorem dX6_readHouse_84 : decode cX6_readHouse 84 = .ok (.istore 4, 2) := by decide +kernel
theorem dX6_readHouse_86 : decode cX6_readHouse 86 = .ok (.aload_n 0, 1) := by decide +kernel
theorem dX6_readHouse_87 : decode cX6_readHouse 87 = .ok (.iconst 0, 1) := by decide +kernel
theorem dX6_readHouse_88 : decode cX6_readHouse 88 = .ok (.bipush 6, 2) := by decide +kernel
theorem dX6_readHouse_90 : decode cX6_readHouse 90 = .ok (.invokevirtual 54, 3) := by decide +kernel
theorem dX6_readHouse_93 : decode cX6_readHouse 93 = .ok (.istore 5, 2) := by decide +kernel
theorem dX6_readHouse_95 : decode cX6_readHouse 95 = .ok (.iload 5, 2) := by decide +kernel
theorem dX6_readHouse_97 : decode cX6_readHouse 97 = .ok (.ifCond .ge 5, 3) := by decide +kernel
theorem dX6_readHouse_100 : decode cX6_readHouse 100 = .ok (.iconst 0, 1) := by decide +kernel
theorem dX6_readHouse_101 : decode cX6_readHouse 101 = .ok (.ireturn, 1) := by decide +kernel
theorem dX6_readHouse_102 : decode cX6_readHouse 102 = .ok (.aload_n 1, 1) := by decide +kernel
theorem dX6_readHouse_103 : decode cX6_readHouse 103 = .ok (.iload_n 3, 1) := by decide +kernel
theorem dX6_readHouse_104 : decode cX6_readHouse 104 = .ok (.iload 5, 2) := by decide +kernel
theorem dX6_readHouse_106 : decode cX6_readHouse 106 = .ok (.invokevirtual 79, 3) := by decide +kernel
theorem dX6_readHouse_109 : decode cX6_readHouse 109 = .ok (.ifCond .lt 11, 3) := by decide +kernel
theorem dX6_readHouse_112 : decode cX6_readHouse 112 = .ok (.aload_n 0, 1) := by decide +kernel
theorem dX6_readHouse_113 : decode cX6_readHouse 113 = .ok (.iconst 2, 1) := by decide +kernel
theorem dX6_readHouse_114 : decode cX6_readHouse 114 = .ok (.iload 4, 2) := by decide +kernel
theorem dX6_readHouse_116 : decode cX6_readHouse 116 = .ok (.invokevirtual 69, 3) := by decide +kernel
theorem dX6_readHouse_119 : decode cX6_readHouse 119 = .ok (.ireturn, 1) := by decide +kernel
theorem dX6_readHouse_120 : decode cX6_readHouse 120 = .ok (.aload_n 0, 1) := by decide +kernel
theorem dX6_readHouse_121 : decode cX6_readHouse 121 = .ok (.bipush 44, 2) := by decide +kernel
theorem dX6_readHouse_123 : decode cX6_readHouse 123 = .ok (.invokevirtual 44, 3) := by decide +kernel
theorem dX6_readHouse_126 : decode cX6_readHouse 126 = .ok (.ifCond .ne 5, 3) := by decide +kernel
theorem dX6_readHouse_129 : decode cX6_readHouse 129 = .ok (.iconst 0, 1) := by decide +kernel
theorem dX6_readHouse_130 : decode cX6_readHouse 130 = .ok (.ireturn, 1) := by decide +kernel
theorem dX6_readHouse_131 : decode cX6_readHouse 131 = .ok (.aload_n 0, 1) := by decide +kernel
theorem dX6_readHouse_132 : decode cX6_readHouse 132 = .ok (.iconst 0, 1) := by decide +kernel
theorem dX6_readHouse_133 : decode cX6_readHouse 133 = .ok (.iconst 1, 1) := by decide +kernel
theorem dX6_readHouse_134 : decode cX6_readHouse 134 = .ok (.invokevirtual 54, 3) := by decide +kernel
theorem dX6_readHouse_137 : decode cX6_readHouse 137 = .ok (.istore 6, 2) := by decide +kernel
theorem dX6_readHouse_139 : decode cX6_readHouse 139 = .ok (.iload 6, 2) := by decide +kernel
theorem dX6_readHouse_141 : decode cX6_readHouse 141 = .ok (.ifCond .lt 12, 3) := by decide +kernel
theorem dX6_readHouse_144 : decode cX6_readHouse 144 = .ok (.aload_n 0, 1) := by decide +kernel
theorem dX6_readHouse_145 : decode cX6_readHouse 145 = .ok (.bipush 59, 2) := by decide +kernel
theorem dX6_readHouse_147 : decode cX6_readHouse 147 = .ok (.invokevirtual 44, 3) := by decide +kernel
theorem dX6_readHouse_150 : decode cX6_readHouse 150 = .ok (.ifCond .ne 5, 3) := by decide +kernel
theorem dX6_readHouse_153 : decode cX6_readHouse 153 = .ok (.iconst 0, 1) := by decide +kernel
theorem dX6_readHouse_154 : decode cX6_readHouse 154 = .ok (.ireturn, 1) := by decide +kernel
theorem dX6_readHouse_155 : decode cX6_readHouse 155 = .ok (.aload_n 1, 1) := by decide +kernel
theorem dX6_readHouse_156 : decode cX6_readHouse 156 = .ok (.iload_n 2, 1) := by decide +kernel
theorem dX6_readHouse_157 : decode cX6_readHouse 157 = .ok (.iload_n 3, 1) := by decide +kernel
theorem dX6_readHouse_158 : decode cX6_readHouse 158 = .ok (.iload 5, 2) := by decide +kernel
theorem dX6_readHouse_160 : decode cX6_readHouse 160 = .ok (.iload 6, 2) := by decide +kernel
theorem dX6_readHouse_162 : decode cX6_readHouse 162 = .ok (.invokevirtual 82, 3) := by decide +kernel
theorem dX6_readHouse_165 : decode cX6_readHouse 165 = .ok (.iconst 1, 1) := by decide +kernel
theorem dX6_readHouse_166 : decode cX6_readHouse 166 = .ok (.ireturn, 1) := by decide +kernel
theorem dX6_readSign_0 : decode cX6_readSign 0 = .ok (.aload_n 0, 1) := by decide +kernel
theorem dX6_readSign_1 : decode cX6_readSign 1 = .ok (.aload_n 0, 1) := by decide +kernel
theorem dX6_readSign_2 : decode cX6_readSign 2 = .ok (.getfield 19, 3) := by decide +kernel
theorem dX6_readSign_5 : decode cX6_readSign 5 = .ok (.invokevirtual 62, 3) := by decide +kernel
theorem dX6_readSign_8 : decode cX6_readSign 8 = .ok (.iload_n 1, 1) := by decide +kernel
theorem dX6_readSign_9 : decode cX6_readSign 9 = .ok (.if_icmp .eq 13, 3) := by decide +kernel
theorem dX6_readSign_12 : decode cX6_readSign 12 = .ok (.aload_n 0, 1) := by decide +kernel
theorem dX6_readSign_13 : decode cX6_readSign 13 = .ok (.iconst 1, 1) := by decide +kernel
theorem dX6_readSign_14 : decode cX6_readSign 14 = .ok (.aload_n 0, 1) := by decide +kernel
theorem dX6_readSign_15 : decode cX6_readSign 15 = .ok (.getfield 19, 3) := by decide +kernel
theorem dX6_readSign_18 : decode cX6_readSign 18 = .ok (.invokevirtual 69, 3) := by decide +kernel
theorem dX6_readSign_21 : decode cX6_readSign 21 = .ok (.ireturn, 1) := by decide +kernel
theorem dX6_readSign_22 : decode cX6_readSign 22 = .ok (.aload_n 0, 1) := by decide +kernel
theorem dX6_readSign_23 : decode cX6_readSign 23 = .ok (.dup, 1) := by decide +kernel
theorem dX6_readSign_24 : decode cX6_readSign 24 = .ok (.getfield 19, 3) := by decide +kernel
theorem dX6_readSign_27 : decode cX6_readSign 27 = .ok (.iconst 1, 1) := by decide +kernel
theorem dX6_readSign_28 : decode cX6_readSign 28 = .ok (.iadd, 1) := by decide +kernel
theorem dX6_readSign_29 : decode cX6_readSign 29 = .ok (.putfield 19, 3) := by decide +kernel
theorem dX6_readSign_32 : decode cX6_readSign 32 = .ok (.iconst 1, 1) := by decide +kernel
theorem dX6_readSign_33 : decode cX6_readSign 33 = .ok (.ireturn, 1) := by decide +kernel
theorem dX6_readNumber_0 : decode cX6_readNumber 0 = .ok (.iconst 0, 1) := by decide +kernel
theorem dX6_readNumber_1 : decode cX6_readNumber 1 = .ok (.istore_n 3, 1) := by decide +kernel
theorem dX6_readNumber_2 : decode cX6_readNumber 2 = .ok (.iconst 0, 1) := by decide +kernel
theorem dX6_readNumber_3 : decode cX6_readNumber 3 = .ok (.istore 4, 2) := by decide +kernel
theorem dX6_readNumber_5 : decode cX6_readNumber 5 = .ok (.iload_n 3, 1) := by decide +kernel
theorem dX6_readNumber_6 : decode cX6_readNumber 6 = .ok (.iconst 3, 1) := by decide +kernel
theorem dX6_readNumber_7 : decode cX6_readNumber 7 = .ok (.if_icmp .ge 50, 3) := by decide +kernel
theorem dX6_readNumber_10 : decode cX6_readNumber 10 = .ok (.aload_n 0, 1) := by decide +kernel
theorem dX6_readNumber_11 : decode cX6_readNumber 11 = .ok (.aload_n 0, 1) := by decide +kernel
theorem dX6_readNumber_12 : decode cX6_readNumber 12 = .ok (.getfield 19, 3) := by decide +kernel
theorem dX6_readNumber_15 : decode cX6_readNumber 15 = .ok (.iload_n 3, 1) := by decide +kernel
theorem dX6_readNumber_16 : decode cX6_readNumber 16 = .ok (.iadd, 1) := by decide +kernel
theorem dX6_readNumber_17 : decode cX6_readNumber 17 = .ok (.invokevirtual 62, 3) := by decide +kernel
theorem dX6_readNumber_20 : decode cX6_readNumber 20 = .ok (.bipush 48, 2) := by decide +kernel
theorem dX6_readNumber_22 : decode cX6_readNumber 22 = .ok (.bipush 57, 2) := by decide +kernel
theorem dX6_readNumber_24 : decode cX6_readNumber 24 = .ok (.invokestatic 86, 3) := by decide +kernel
theorem dX6_readNumber_27 : decode cX6_readNumber 27 = .ok (.ifCond .eq 30, 3) := by decide +kernel
theorem dX6_readNumber_30 : decode cX6_readNumber 30 = .ok (.bipush 10, 2) := by decide +kernel
theorem dX6_readNumber_32 : decode cX6_readNumber 32 = .ok (.iload 4, 2) := by decide +kernel
theorem dX6_readNumber_34 : decode cX6_readNumber 34 = .ok (.imul, 1) := by decide +kernel
theorem dX6_readNumber_35 : decode cX6_readNumber 35 = .ok (.aload_n 0, 1) := by decide +kernel
theorem dX6_readNumber_36 : decode cX6_readNumber 36 = .ok (.aload_n 0, 1) := by decide +kernel
theorem dX6_readNumber_37 : decode cX6_readNumber 37 = .ok (.getfield 19, 3) := by decide +kernel
theorem dX6_readNumber_40 : decode cX6_readNumber 40 = .ok (.iload_n 3, 1) := by decide +kernel
theorem dX6_readNumber_41 : decode cX6_readNumber 41 = .ok (.iadd, 1) := by decide +kernel
theorem dX6_readNumber_42 : decode cX6_readNumber 42 = .ok (.invokevirtual 62, 3) := by decide +kernel
theorem dX6_readNumber_45 : decode cX6_readNumber 45 = .ok (.iadd, 1) := by decide +kernel
theorem dX6_readNumber_46 : decode cX6_readNumber 46 = .ok (.bipush 48, 2) := by decide +kernel
theorem dX6_readNumber_48 : decode cX6_readNumber 48 = .ok (.isub, 1) := by decide +kernel
theorem dX6_readNumber_49 : decode cX6_readNumber 49 = .ok (.istore 4, 2) := by decide +kernel
theorem dX6_readNumber_51 : decode cX6_readNumber 51 = .ok (.iinc 3 1, 3) := by decide +kernel
theorem dX6_readNumber_54 : decode cX6_readNumber 54 = .ok (.goto (-49), 3) := by decide +kernel
theorem dX6_readNumber_57 : decode cX6_readNumber 57 = .ok (.iload_n 3, 1) := by decide +kernel
theorem dX6_readNumber_58 : decode cX6_readNumber 58 = .ok (.iconst 1, 1) := by decide +kernel
theorem dX6_readNumber_59 : decode cX6_readNumber 59 = .ok (.if_icmp .lt 8, 3) := by decide +kernel
theorem dX6_readNumber_62 : decode cX6_readNumber 62 = .ok (.iload_n 3, 1) := by decide +kernel
theorem dX6_readNumber_63 : decode cX6_readNumber 63 = .ok (.iconst 2, 1) := by decide +kernel
theorem dX6_readNumber_64 : decode cX6_readNumber 64 = .ok (.if_icmp .le 15, 3) := by decide +kernel
theorem dX6_readNumber_67 : decode cX6_readNumber 67 = .ok (.aload_n 0, 1) := by decide +kernel
theorem dX6_readNumber_68 : decode cX6_readNumber 68 = .ok (.iconst 1, 1) := by decide +kernel
theorem dX6_readNumber_69 : decode cX6_readNumber 69 = .ok (.aload_n 0, 1) := by decide +kernel
theorem dX6_readNumber_70 : decode cX6_readNumber 70 = .ok (.getfield 19, 3) := by decide +kernel
theorem dX6_readNumber_73 : decode cX6_readNumber 73 = .ok (.invokevirtual 69, 3) := by decide +kernel
theorem dX6_readNumber_76 : decode cX6_readNumber 76 = .ok (.pop, 1) := by decide +kernel
theorem dX6_readNumber_77 : decode cX6_readNumber 77 = .ok (.iconst (-1), 1) := by decide +kernel
theorem dX6_readNumber_78 : decode cX6_readNumber 78 = .ok (.ireturn, 1) := by decide +kernel
theorem dX6_readNumber_79 : decode cX6_readNumber 79 = .ok (.iload 4, 2) := by decide +kernel
theorem dX6_readNumber_81 : decode cX6_readNumber 81 = .ok (.iload_n 1, 1) := by decide +kernel
theorem dX6_readNumber_82 : decode cX6_readNumber 82 = .ok (.iload_n 2, 1) := by decide +kernel
theorem dX6_readNumber_83 : decode cX6_readNumber 83 = .ok (.invokestatic 86, 3) := by decide +kernel
theorem dX6_readNumber_86 : decode cX6_readNumber 86 = .ok (.ifCond .ne 15, 3) := by decide +kernel
theorem dX6_readNumber_89 : decode cX6_readNumber 89 = .ok (.aload_n 0, 1) := by decide +kernel
theorem dX6_readNumber_90 : decode cX6_readNumber 90 = .ok (.iconst 2, 1) := by decide +kernel
theorem dX6_readNumber_91 : decode cX6_readNumber 91 = .ok (.aload_n 0, 1) := by decide +kernel
theorem dX6_readNumber_92 : decode cX6_readNumber 92 = .ok (.getfield 19, 3) := by decide +kernel
theorem dX6_readNumber_95 : decode cX6_readNumber 95 = .ok (.invokevirtual 69, 3) := by decide +kernel
theorem dX6_readNumber_98 : decode cX6_readNumber 98 = .ok (.pop, 1) := by decide +kernel
theorem dX6_readNumber_99 : decode cX6_readNumber 99 = .ok (.iconst (-1), 1) := by decide +kernel
theorem dX6_readNumber_100 : decode cX6_readNumber 100 = .ok (.ireturn, 1) := by decide +kernel
theorem dX6_readNumber_101 : decode cX6_readNumber 101 = .ok (.aload_n 0, 1) := by decide +kernel
theorem dX6_readNumber_102 : decode cX6_readNumber 102 = .ok (.dup, 1) := by decide +kernel
theorem dX6_readNumber_103 : decode cX6_readNumber 103 = .ok (.getfield 19, 3) := by decide +kernel
theorem dX6_readNumber_106 : decode cX6_readNumber 106 = .ok (.iload_n 3, 1) := by decide +kernel
theorem dX6_readNumber_107 : decode cX6_readNumber 107 = .ok (.iadd, 1) := by decide +kernel
theorem dX6_readNumber_108 : decode cX6_readNumber 108 = .ok (.putfield 19, 3) := by decide +kernel
theorem dX6_readNumber_111 : decode cX6_readNumber 111 = .ok (.iload 4, 2) := by decide +kernel
theorem dX6_readNumber_113 : decode cX6_readNumber 113 = .ok (.ireturn, 1) := by decide +kernel
theorem dX6_peek_0 : decode cX6_peek 0 = .ok (.iload_n 1, 1) := by decide +kernel
theorem dX6_peek_1 : decode cX6_peek 1 = .ok (.iconst 0, 1) := by decide +kernel
theorem dX6_peek_2 : decode cX6_peek 2 = .ok (.aload_n 0, 1) := by decide +kernel
theorem dX6_peek_3 : decode cX6_peek 3 = .ok (.getfield 15, 3) := by decide +kernel
theorem dX6_peek_6 : decode cX6_peek 6 = .ok (.iconst 1, 1) := by decide +kernel
theorem dX6_peek_7 : decode cX6_peek 7 = .ok (.isub, 1) := by decide +kernel
theorem dX6_peek_8 : decode cX6_peek 8 = .ok (.invokestatic 86, 3) := by decide +kernel
theorem dX6_peek_11 : decode cX6_peek 11 = .ok (.ifCond .eq 18, 3) := by decide +kernel
theorem dX6_peek_14 : decode cX6_peek 14 = .ok (.iload_n 1, 1) := by decide +kernel
theorem dX6_peek_15 : decode cX6_peek 15 = .ok (.bipush 100, 2) := by decide +kernel
theorem dX6_peek_17 : decode cX6_peek 17 = .ok (.if_icmp .ge 12, 3) := by decide +kernel
theorem dX6_peek_20 : decode cX6_peek 20 = .ok (.aload_n 0, 1) := by decide +kernel
theorem dX6_peek_21 : decode cX6_peek 21 = .ok (.getfield 9, 3) := by decide +kernel
theorem dX6_peek_24 : decode cX6_peek 24 = .ok (.iload_n 1, 1) := by decide +kernel
theorem dX6_peek_25 : decode cX6_peek 25 = .ok (.iaload, 1) := by decide +kernel
theorem dX6_peek_26 : decode cX6_peek 26 = .ok (.goto 4, 3) := by decide +kernel
theorem dX6_peek_29 : decode cX6_peek 29 = .ok (.iconst (-1), 1) := by decide +kernel
theorem dX6_peek_30 : decode cX6_peek 30 = .ok (.ireturn, 1) := by decide +kernel
theorem dX6_fail_0 : decode cX6_fail 0 = .ok (.aload_n 0, 1) := by decide +kernel
theorem dX6_fail_1 : decode cX6_fail 1 = .ok (.iload_n 1, 1) := by decide +kernel
theorem dX6_fail_2 : decode cX6_fail 2 = .ok (.putfield 22, 3) := by decide +kernel
theorem dX6_fail_5 : decode cX6_fail 5 = .ok (.aload_n 0, 1) := by decide +kernel
theorem dX6_fail_6 : decode cX6_fail 6 = .ok (.iload_n 2, 1) := by decide +kernel
theorem dX6_fail_7 : decode cX6_fail 7 = .ok (.putfield 25, 3) := by decide +kernel
theorem dX6_fail_10 : decode cX6_fail 10 = .ok (.iconst 0, 1) := by decide +kernel
theorem dX6_fail_11 : decode cX6_fail 11 = .ok (.ireturn, 1) := by decide +kernel
theorem dX6_kindOf_0 : decode cX6_kindOf 0 = .ok (.iload_n 0, 1) := by decide +kernel
theorem dX6_kindOf_1 : decode cX6_kindOf 1 = .ok (.lookupswitch 61 #[(100, 51), (109, 55), (112, 53), (117, 59), (119, 57)], 51) := by decide +kernel
theorem dX6_kindOf_52 : decode cX6_kindOf 52 = .ok (.iconst 1, 1) := by decide +kernel
theorem dX6_kindOf_53 : decode cX6_kindOf 53 = .ok (.ireturn, 1) := by decide +kernel
theorem dX6_kindOf_54 : decode cX6_kindOf 54 = .ok (.iconst 2, 1) := by decide +kernel
theorem dX6_kindOf_55 : decode cX6_kindOf 55 = .ok (.ireturn, 1) := by decide +kernel
theorem dX6_kindOf_56 : decode cX6_kindOf 56 = .ok (.iconst 3, 1) := by decide +kernel
theorem dX6_kindOf_57 : decode cX6_kindOf 57 = .ok (.ireturn, 1) := by decide +kernel
theorem dX6_kindOf_58 : decode cX6_kindOf 58 = .ok (.iconst 4, 1) := by decide +kernel
theorem dX6_kindOf_59 : decode cX6_kindOf 59 = .ok (.ireturn, 1) := by decide +kernel
theorem dX6_kindOf_60 : decode cX6_kindOf 60 = .ok (.iconst 5, 1) := by decide +kernel
theorem dX6_kindOf_61 : decode cX6_kindOf 61 = .ok (.ireturn, 1) := by decide +kernel
theorem dX6_kindOf_62 : decode cX6_kindOf 62 = .ok (.iconst 0, 1) := by decide +kernel
theorem dX6_kindOf_63 : decode cX6_kindOf 63 = .ok (.ireturn, 1) := by decide +kernel
theorem dX7_init_0 : decode cX7_init 0 = .ok (.aload_n 0, 1) := by decide +kernel
theorem dX7_init_1 : decode cX7_init 1 = .ok (.invokespecial 3, 3) := by decide +kernel
theorem dX7_init_4 : decode cX7_init 4 = .ok (.aload_n 0, 1) := by decide +kernel
theorem dX7_init_5 : decode cX7_init 5 = .ok (.bipush 16, 2) := by decide +kernel
theorem dX7_init_7 : decode cX7_init 7 = .ok (.newarray .int, 2) := by decide +kernel
theorem dX7_init_9 : decode cX7_init 9 = .ok (.putfield 9, 3) := by decide +kernel
theorem dX7_init_12 : decode cX7_init 12 = .ok (.return_, 1) := by decide +kernel
theorem dX7_leave_0 : decode cX7_leave 0 = .ok (.aload_n 0, 1) := by decide +kernel
theorem dX7_leave_1 : decode cX7_leave 1 = .ok (.getfield 15, 3) := by decide +kernel
theorem dX7_leave_4 : decode cX7_leave 4 = .ok (.bipush 16, 2) := by decide +kernel
theorem dX7_leave_6 : decode cX7_leave 6 = .ok (.if_icmp .ge 23, 3) := by decide +kernel
theorem dX7_leave_9 : decode cX7_leave 9 = .ok (.aload_n 0, 1) := by decide +kernel
theorem dX7_leave_10 : decode cX7_leave 10 = .ok (.getfield 9, 3) := by decide +kernel
theorem dX7_leave_13 : decode cX7_leave 13 = .ok (.aload_n 0, 1) := by decide +kernel
theorem dX7_leave_14 : decode cX7_leave 14 = .ok (.getfield 15, 3) := by decide +kernel
theorem dX7_leave_17 : decode cX7_leave 17 = .ok (.iload_n 1, 1) := by decide +kernel
theorem dX7_leave_18 : decode cX7_leave 18 = .ok (.iastore, 1) := by decide +kernel
theorem dX7_leave_19 : decode cX7_leave 19 = .ok (.aload_n 0, 1) := by decide +kernel
theorem dX7_leave_20 : decode cX7_leave 20 = .ok (.dup, 1) := by decide +kernel
theorem dX7_leave_21 : decode cX7_leave 21 = .ok (.getfield 15, 3) := by decide +kernel
theorem dX7_leave_24 : decode cX7_leave 24 = .ok (.iconst 1, 1) := by decide +kernel
theorem dX7_leave_25 : decode cX7_leave 25 = .ok (.iadd, 1) := by decide +kernel
theorem dX7_leave_26 : decode cX7_leave 26 = .ok (.putfield 15, 3) := by decide +kernel
theorem dX7_leave_29 : decode cX7_leave 29 = .ok (.return_, 1) := by decide +kernel
theorem dX7_answer_0 : decode cX7_answer 0 = .ok (.aload_n 0, 1) := by decide +kernel
theorem dX7_answer_1 : decode cX7_answer 1 = .ok (.aload_n 1, 1) := by decide +kernel
theorem dX7_answer_2 : decode cX7_answer 2 = .ok (.iload_n 2, 1) := by decide +kernel
theorem dX7_answer_3 : decode cX7_answer 3 = .ok (.aload_n 1, 1) := by decide +kernel
theorem dX7_answer_4 : decode cX7_answer 4 = .ok (.iload_n 3, 1) := by decide +kernel
theorem dX7_answer_5 : decode cX7_answer 5 = .ok (.invokestatic 19, 3) := by decide +kernel
theorem dX7_answer_8 : decode cX7_answer 8 = .ok (.iconst 0, 1) := by decide +kernel
theorem dX7_answer_9 : decode cX7_answer 9 = .ok (.invokestatic 23, 3) := by decide +kernel
theorem dX7_answer_12 : decode cX7_answer 12 = .ok (.ireturn, 1) := by decide +kernel
theorem dX7_bodyFor_0 : decode cX7_bodyFor 0 = .ok (.aload_n 0, 1) := by decide +kernel
theorem dX7_bodyFor_1 : decode cX7_bodyFor 1 = .ok (.getfield 27, 3) := by decide +kernel
theorem dX7_bodyFor_4 : decode cX7_bodyFor 4 = .ok (.iconst 0, 1) := by decide +kernel
theorem dX7_bodyFor_5 : decode cX7_bodyFor 5 = .ok (.iconst 5, 1) := by decide +kernel
theorem dX7_bodyFor_6 : decode cX7_bodyFor 6 = .ok (.invokestatic 32, 3) := by decide +kernel
theorem dX7_bodyFor_9 : decode cX7_bodyFor 9 = .ok (.ifCond .eq 10, 3) := by decide +kernel
theorem dX7_bodyFor_12 : decode cX7_bodyFor 12 = .ok (.aload_n 0, 1) := by decide +kernel
theorem dX7_bodyFor_13 : decode cX7_bodyFor 13 = .ok (.getfield 27, 3) := by decide +kernel
theorem dX7_bodyFor_16 : decode cX7_bodyFor 16 = .ok (.goto 4, 3) := by decide +kernel
theorem dX7_bodyFor_19 : decode cX7_bodyFor 19 = .ok (.iconst 0, 1) := by decide +kernel
theorem dX7_bodyFor_20 : decode cX7_bodyFor 20 = .ok (.istore_n 2, 1) := by decide +kernel
theorem dX7_bodyFor_21 : decode cX7_bodyFor 21 = .ok (.iload_n 1, 1) := by decide +kernel
theorem dX7_bodyFor_22 : decode cX7_bodyFor 22 = .ok (.ifCond .ne 11, 3) := by decide +kernel
theorem dX7_bodyFor_25 : decode cX7_bodyFor 25 = .ok (.getstatic 36, 3) := by decide +kernel
theorem dX7_bodyFor_28 : decode cX7_bodyFor 28 = .ok (.iload_n 2, 1) := by decide +kernel
theorem dX7_bodyFor_29 : decode cX7_bodyFor 29 = .ok (.iaload, 1) := by decide +kernel
theorem dX7_bodyFor_30 : decode cX7_bodyFor 30 = .ok (.goto 8, 3) := by decide +kernel
theorem dX7_bodyFor_33 : decode cX7_bodyFor 33 = .ok (.getstatic 39, 3) := by decide +kernel
theorem dX7_bodyFor_36 : decode cX7_bodyFor 36 = .ok (.iload_n 2, 1) := by decide +kernel
theorem dX7_bodyFor_37 : decode cX7_bodyFor 37 = .ok (.iaload, 1) := by decide +kernel
theorem dX7_bodyFor_38 : decode cX7_bodyFor 38 = .ok (.ireturn, 1) := by decide +kernel
theorem dX7_give_0 : decode cX7_give 0 = .ok (.iload 4, 2) := by decide +kernel
theorem dX7_give_2 : decode cX7_give 2 = .ok (.bipush 16, 2) := by decide +kernel
theorem dX7_give_4 : decode cX7_give 4 = .ok (.if_icmp .le 5, 3) := by decide +kernel
theorem dX7_give_7 : decode cX7_give 7 = .ok (.iconst 0, 1) := by decide +kernel
theorem dX7_give_8 : decode cX7_give 8 = .ok (.ireturn, 1) := by decide +kernel
theorem dX7_give_9 : decode cX7_give 9 = .ok (.aload_n 0, 1) := by decide +kernel
theorem dX7_give_10 : decode cX7_give 10 = .ok (.iload_n 3, 1) := by decide +kernel
theorem dX7_give_11 : decode cX7_give 11 = .ok (.invokevirtual 42, 3) := by decide +kernel
theorem dX7_give_14 : decode cX7_give 14 = .ok (.iload 4, 2) := by decide +kernel
theorem dX7_give_16 : decode cX7_give 16 = .ok (.iconst 1, 1) := by decide +kernel
theorem dX7_give_17 : decode cX7_give 17 = .ok (.iadd, 1) := by decide +kernel
theorem dX7_give_18 : decode cX7_give 18 = .ok (.istore 5, 2) := by decide +kernel
theorem dX7_give_20 : decode cX7_give 20 = .ok (.iload_n 3, 1) := by decide +kernel
theorem dX7_give_21 : decode cX7_give 21 = .ok (.tableswitch 215 10 24 #[75, 80, 105, 117, 131, 215, 215, 215, 215, 215, 144, 146, 162, 177, 202], 75) := by decide +kernel
theorem dX7_give_96 : decode cX7_give 96 = .ok (.aload_n 1, 1) := by decide +kernel
theorem dX7_give_97 : decode cX7_give 97 = .ok (.getfield 46, 3) := by decide +kernel
theorem dX7_give_100 : decode cX7_give 100 = .ok (.ireturn, 1) := by decide +kernel
theorem dX7_give_101 : decode cX7_give 101 = .ok (.aload_n 0, 1) := by decide +kernel
theorem dX7_give_102 : decode cX7_give 102 = .ok (.aload_n 1, 1) := by decide +kernel
theorem dX7_give_103 : decode cX7_give 103 = .ok (.iload_n 2, 1) := by decide +kernel
theorem dX7_give_104 : decode cX7_give 104 = .ok (.bipush 10, 2) := by decide +kernel
theorem dX7_give_106 : decode cX7_give 106 = .ok (.iload 5, 2) := by decide +kernel
theorem dX7_give_108 : decode cX7_give 108 = .ok (.invokestatic 23, 3) := by decide +kernel
theorem dX7_give_111 : decode cX7_give 111 = .ok (.aload_n 0, 1) := by decide +kernel
theorem dX7_give_112 : decode cX7_give 112 = .ok (.aload_n 1, 1) := by decide +kernel
theorem dX7_give_113 : decode cX7_give 113 = .ok (.iload_n 2, 1) := by decide +kernel
theorem dX7_give_114 : decode cX7_give 114 = .ok (.aload_n 1, 1) := by decide +kernel
theorem dX7_give_115 : decode cX7_give 115 = .ok (.iconst 1, 1) := by decide +kernel
theorem dX7_give_116 : decode cX7_give 116 = .ok (.invokestatic 19, 3) := by decide +kernel
theorem dX7_give_119 : decode cX7_give 119 = .ok (.iload 5, 2) := by decide +kernel
theorem dX7_give_121 : decode cX7_give 121 = .ok (.invokestatic 23, 3) := by decide +kernel
theorem dX7_give_124 : decode cX7_give 124 = .ok (.iadd, 1) := by decide +kernel
theorem dX7_give_125 : decode cX7_give 125 = .ok (.ireturn, 1) := by decide +kernel
theorem dX7_give_126 : decode cX7_give 126 = .ok (.aload_n 0, 1) := by decide +kernel
theorem dX7_give_127 : decode cX7_give 127 = .ok (.aload_n 1, 1) := by decide +kernel
theorem dX7_give_128 : decode cX7_give 128 = .ok (.iload_n 2, 1) := by decide +kernel
theorem dX7_give_129 : decode cX7_give 129 = .ok (.bipush 11, 2) := by decide +kernel
theorem dX7_give_131 : decode cX7_give 131 = .ok (.iload 5, 2) := by decide +kernel
theorem dX7_give_133 : decode cX7_give 133 = .ok (.invokestatic 23, 3) := by decide +kernel
theorem dX7_give_136 : decode cX7_give 136 = .ok (.ineg, 1) := by decide +kernel
theorem dX7_give_137 : decode cX7_give 137 = .ok (.ireturn, 1) := by decide +kernel
theorem dX7_give_138 : decode cX7_give 138 = .ok (.aload_n 0, 1) := by decide +kernel
theorem dX7_give_139 : decode cX7_give 139 = .ok (.aload_n 1, 1) := by decide +kernel
theorem dX7_give_140 : decode cX7_give 140 = .ok (.iload_n 2, 1) := by decide +kernel
theorem dX7_give_141 : decode cX7_give 141 = .ok (.bipush 10, 2) := by decide +kernel
theorem dX7_give_143 : decode cX7_give 143 = .ok (.iload 5, 2) := by decide +kernel
theorem dX7_give_145 : decode cX7_give 145 = .ok (.invokestatic 23, 3) := by decide +kernel
theorem dX7_give_148 : decode cX7_give 148 = .ok (.bipush 100, 2) := by decide +kernel
theorem dX7_give_150 : decode cX7_give 150 = .ok (.isub, 1) := by decide +kernel
theorem dX7_give_151 : decode cX7_give 151 = .ok (.ireturn, 1) := by decide +kernel
theorem dX7_give_152 : decode cX7_give 152 = .ok (.iconst 2, 1) := by decide +kernel
theorem dX7_give_153 : decode cX7_give 153 = .ok (.aload_n 0, 1) := by decide +kernel
theorem dX7_give_154 : decode cX7_give 154 = .ok (.aload_n 1, 1) := by decide +kernel
theorem dX7_give_155 : decode cX7_give 155 = .ok (.iload_n 2, 1) := by decide +kernel
theorem dX7_give_156 : decode cX7_give 156 = .ok (.bipush 13, 2) := by decide +kernel
theorem dX7_give_158 : decode cX7_give 158 = .ok (.iload 5, 2) := by decide +kernel
theorem dX7_give_160 : decode cX7_give 160 = .ok (.invokestatic 23, 3) := by decide +kernel
theorem dX7_give_163 : decode cX7_give 163 = .ok (.imul, 1) := by decide +kernel
theorem dX7_give_164 : decode cX7_give 164 = .ok (.ireturn, 1) := by decide +kernel
theorem dX7_give_165 : decode cX7_give 165 = .ok (.iload_n 2, 1) := by decide +kernel
theorem dX7_give_166 : decode cX7_give 166 = .ok (.ireturn, 1) := by decide +kernel
theorem dX7_give_167 : decode cX7_give 167 = .ok (.aload_n 0, 1) := by decide +kernel
theorem dX7_give_168 : decode cX7_give 168 = .ok (.aload_n 1, 1) := by decide +kernel
theorem dX7_give_169 : decode cX7_give 169 = .ok (.iload_n 2, 1) := by decide +kernel
theorem dX7_give_170 : decode cX7_give 170 = .ok (.bipush 20, 2) := by decide +kernel
theorem dX7_give_172 : decode cX7_give 172 = .ok (.iload 5, 2) := by decide +kernel
theorem dX7_give_174 : decode cX7_give 174 = .ok (.invokestatic 23, 3) := by decide +kernel
theorem dX7_give_177 : decode cX7_give 177 = .ok (.aload_n 1, 1) := by decide +kernel
theorem dX7_give_178 : decode cX7_give 178 = .ok (.getfield 49, 3) := by decide +kernel
theorem dX7_give_181 : decode cX7_give 181 = .ok (.iadd, 1) := by decide +kernel
theorem dX7_give_182 : decode cX7_give 182 = .ok (.ireturn, 1) := by decide +kernel
theorem dX7_give_183 : decode cX7_give 183 = .ok (.aload_n 0, 1) := by decide +kernel
theorem dX7_give_184 : decode cX7_give 184 = .ok (.aload_n 1, 1) := by decide +kernel
theorem dX7_give_185 : decode cX7_give 185 = .ok (.iload_n 2, 1) := by decide +kernel
theorem dX7_give_186 : decode cX7_give 186 = .ok (.bipush 21, 2) := by decide +kernel
theorem dX7_give_188 : decode cX7_give 188 = .ok (.iload 5, 2) := by decide +kernel
theorem dX7_give_190 : decode cX7_give 190 = .ok (.invokestatic 23, 3) := by decide +kernel
theorem dX7_give_193 : decode cX7_give 193 = .ok (.sipush 1000, 3) := by decide +kernel
theorem dX7_give_196 : decode cX7_give 196 = .ok (.isub, 1) := by decide +kernel
theorem dX7_give_197 : decode cX7_give 197 = .ok (.ireturn, 1) := by decide +kernel
theorem dX7_give_198 : decode cX7_give 198 = .ok (.aload_n 0, 1) := by decide +kernel
theorem dX7_give_199 : decode cX7_give 199 = .ok (.aload_n 1, 1) := by decide +kernel
theorem dX7_give_200 : decode cX7_give 200 = .ok (.iload_n 2, 1) := by decide +kernel
theorem dX7_give_201 : decode cX7_give 201 = .ok (.bipush 20, 2) := by decide +kernel
theorem dX7_give_203 : decode cX7_give 203 = .ok (.iload 5, 2) := by decide +kernel
theorem dX7_give_205 : decode cX7_give 205 = .ok (.invokestatic 23, 3) := by decide +kernel
theorem dX7_give_208 : decode cX7_give 208 = .ok (.aload_n 0, 1) := by decide +kernel
theorem dX7_give_209 : decode cX7_give 209 = .ok (.aload_n 1, 1) := by decide +kernel
theorem dX7_give_210 : decode cX7_give 210 = .ok (.iload_n 2, 1) := by decide +kernel
theorem dX7_give_211 : decode cX7_give 211 = .ok (.aload_n 1, 1) := by decide +kernel
theorem dX7_give_212 : decode cX7_give 212 = .ok (.iconst 0, 1) := by decide +kernel
theorem dX7_give_213 : decode cX7_give 213 = .ok (.invokestatic 19, 3) := by decide +kernel
theorem dX7_give_216 : decode cX7_give 216 = .ok (.iload 5, 2) := by decide +kernel
theorem dX7_give_218 : decode cX7_give 218 = .ok (.invokestatic 23, 3) := by decide +kernel
theorem dX7_give_221 : decode cX7_give 221 = .ok (.isub, 1) := by decide +kernel
theorem dX7_give_222 : decode cX7_give 222 = .ok (.ireturn, 1) := by decide +kernel
theorem dX7_give_223 : decode cX7_give 223 = .ok (.iconst 2, 1) := by decide +kernel
theorem dX7_give_224 : decode cX7_give 224 = .ok (.aload_n 0, 1) := by decide +kernel
theorem dX7_give_225 : decode cX7_give 225 = .ok (.aload_n 1, 1) := by decide +kernel
theorem dX7_give_226 : decode cX7_give 226 = .ok (.iload_n 2, 1) := by decide +kernel
theorem dX7_give_227 : decode cX7_give 227 = .ok (.bipush 21, 2) := by decide +kernel
theorem dX7_give_229 : decode cX7_give 229 = .ok (.iload 5, 2) := by decide +kernel
theorem dX7_give_231 : decode cX7_give 231 = .ok (.invokestatic 23, 3) := by decide +kernel
theorem dX7_give_234 : decode cX7_give 234 = .ok (.imul, 1) := by decide +kernel
theorem dX7_give_235 : decode cX7_give 235 = .ok (.ireturn, 1) := by decide +kernel
theorem dX7_give_236 : decode cX7_give 236 = .ok (.iconst 0, 1) := by decide +kernel
theorem dX7_give_237 : decode cX7_give 237 = .ok (.ireturn, 1) := by decide +kernel
theorem dX8_init_0 : decode cX8_init 0 = .ok (.aload_n 0, 1) := by decide +kernel
theorem dX8_init_1 : decode cX8_init 1 = .ok (.invokespecial 1, 3) := by decide +kernel
theorem dX8_init_4 : decode cX8_init 4 = .ok (.aload_n 0, 1) := by decide +kernel
theorem dX8_init_5 : decode cX8_init 5 = .ok (.bipush 8, 2) := by decide +kernel
theorem dX8_init_7 : decode cX8_init 7 = .ok (.anewarray 9, 3) := by decide +kernel
theorem dX8_init_10 : decode cX8_init 10 = .ok (.putfield 11, 3) := by decide +kernel
theorem dX8_init_13 : decode cX8_init 13 = .ok (.aload_n 0, 1) := by decide +kernel
theorem dX8_init_14 : decode cX8_init 14 = .ok (.new 15, 3) := by decide +kernel
theorem dX8_init_17 : decode cX8_init 17 = .ok (.dup, 1) := by decide +kernel
theorem dX8_init_18 : decode cX8_init 18 = .ok (.invokespecial 17, 3) := by decide +kernel
theorem dX8_init_21 : decode cX8_init 21 = .ok (.putfield 18, 3) := by decide +kernel
theorem dX8_init_24 : decode cX8_init 24 = .ok (.aload_n 0, 1) := by decide +kernel
theorem dX8_init_25 : decode cX8_init 25 = .ok (.new 22, 3) := by decide +kernel
theorem dX8_init_28 : decode cX8_init 28 = .ok (.dup, 1) := by decide +kernel
theorem dX8_init_29 : decode cX8_init 29 = .ok (.invokespecial 24, 3) := by decide +kernel
theorem dX8_init_32 : decode cX8_init 32 = .ok (.putfield 25, 3) := by decide +kernel
theorem dX8_init_35 : decode cX8_init 35 = .ok (.aload_n 0, 1) := by decide +kernel
theorem dX8_init_36 : decode cX8_init 36 = .ok (.new 22, 3) := by decide +kernel
theorem dX8_init_39 : decode cX8_init 39 = .ok (.dup, 1) := by decide +kernel
theorem dX8_init_40 : decode cX8_init 40 = .ok (.invokespecial 24, 3) := by decide +kernel
theorem dX8_init_43 : decode cX8_init 43 = .ok (.putfield 29, 3) := by decide +kernel
theorem dX8_init_46 : decode cX8_init 46 = .ok (.aload_n 0, 1) := by decide +kernel
theorem dX8_init_47 : decode cX8_init 47 = .ok (.iconst 2, 1) := by decide +kernel
theorem dX8_init_48 : decode cX8_init 48 = .ok (.anewarray 22, 3) := by decide +kernel
theorem dX8_init_51 : decode cX8_init 51 = .ok (.putfield 32, 3) := by decide +kernel
theorem dX8_init_54 : decode cX8_init 54 = .ok (.aload_n 0, 1) := by decide +kernel
theorem dX8_init_55 : decode cX8_init 55 = .ok (.new 36, 3) := by decide +kernel
theorem dX8_init_58 : decode cX8_init 58 = .ok (.dup, 1) := by decide +kernel
theorem dX8_init_59 : decode cX8_init 59 = .ok (.invokespecial 38, 3) := by decide +kernel
theorem dX8_init_62 : decode cX8_init 62 = .ok (.putfield 39, 3) := by decide +kernel
theorem dX8_init_65 : decode cX8_init 65 = .ok (.aload_n 0, 1) := by decide +kernel
theorem dX8_init_66 : decode cX8_init 66 = .ok (.new 43, 3) := by decide +kernel
theorem dX8_init_69 : decode cX8_init 69 = .ok (.dup, 1) := by decide +kernel
theorem dX8_init_70 : decode cX8_init 70 = .ok (.invokespecial 45, 3) := by decide +kernel
theorem dX8_init_73 : decode cX8_init 73 = .ok (.putfield 46, 3) := by decide +kernel
theorem dX8_init_76 : decode cX8_init 76 = .ok (.aload_n 0, 1) := by decide +kernel
theorem dX8_init_77 : decode cX8_init 77 = .ok (.new 50, 3) := by decide +kernel
theorem dX8_init_80 : decode cX8_init 80 = .ok (.dup, 1) := by decide +kernel
theorem dX8_init_81 : decode cX8_init 81 = .ok (.invokespecial 52, 3) := by decide +kernel
theorem dX8_init_84 : decode cX8_init 84 = .ok (.putfield 53, 3) := by decide +kernel
theorem dX8_init_87 : decode cX8_init 87 = .ok (.iconst 0, 1) := by decide +kernel
theorem dX8_init_88 : decode cX8_init 88 = .ok (.istore_n 1, 1) := by decide +kernel
theorem dX8_init_89 : decode cX8_init 89 = .ok (.iload_n 1, 1) := by decide +kernel
theorem dX8_init_90 : decode cX8_init 90 = .ok (.bipush 8, 2) := by decide +kernel
theorem dX8_init_92 : decode cX8_init 92 = .ok (.if_icmp .ge 22, 3) := by decide +kernel
theorem dX8_init_95 : decode cX8_init 95 = .ok (.aload_n 0, 1) := by decide +kernel
theorem dX8_init_96 : decode cX8_init 96 = .ok (.getfield 11, 3) := by decide +kernel
theorem dX8_init_99 : decode cX8_init 99 = .ok (.iload_n 1, 1) := by decide +kernel
theorem dX8_init_100 : decode cX8_init 100 = .ok (.new 9, 3) := by decide +kernel
theorem dX8_init_103 : decode cX8_init 103 = .ok (.dup, 1) := by decide +kernel
theorem dX8_init_104 : decode cX8_init 104 = .ok (.invokespecial 57, 3) := by decide +kernel
theorem dX8_init_107 : decode cX8_init 107 = .ok (.aastore, 1) := by decide +kernel
theorem dX8_init_108 : decode cX8_init 108 = .ok (.iinc 1 1, 3) := by decide +kernel
theorem dX8_init_111 : decode cX8_init 111 = .ok (.goto (-22), 3) := by decide +kernel
theorem dX8_init_114 : decode cX8_init 114 = .ok (.iconst 0, 1) := by decide +kernel
theorem dX8_init_115 : decode cX8_init 115 = .ok (.istore_n 1, 1) := by decide +kernel
theorem dX8_init_116 : decode cX8_init 116 = .ok (.iload_n 1, 1) := by decide +kernel
theorem dX8_init_117 : decode cX8_init 117 = .ok (.iconst 2, 1) := by decide +kernel
theorem dX8_init_118 : decode cX8_init 118 = .ok (.if_icmp .ge 22, 3) := by decide +kernel
theorem dX8_init_121 : decode cX8_init 121 = .ok (.aload_n 0, 1) := by decide +kernel
theorem dX8_init_122 : decode cX8_init 122 = .ok (.getfield 32, 3) := by decide +kernel
theorem dX8_init_125 : decode cX8_init 125 = .ok (.iload_n 1, 1) := by decide +kernel
theorem dX8_init_126 : decode cX8_init 126 = .ok (.new 22, 3) := by decide +kernel
theorem dX8_init_129 : decode cX8_init 129 = .ok (.dup, 1) := by decide +kernel
theorem dX8_init_130 : decode cX8_init 130 = .ok (.invokespecial 24, 3) := by decide +kernel
theorem dX8_init_133 : decode cX8_init 133 = .ok (.aastore, 1) := by decide +kernel
theorem dX8_init_134 : decode cX8_init 134 = .ok (.iinc 1 1, 3) := by decide +kernel
theorem dX8_init_137 : decode cX8_init 137 = .ok (.goto (-21), 3) := by decide +kernel
theorem dX8_init_140 : decode cX8_init 140 = .ok (.return_, 1) := by decide +kernel
theorem dX8_row_0 : decode cX8_row 0 = .ok (.iload_n 1, 1) := by decide +kernel
theorem dX8_row_1 : decode cX8_row 1 = .ok (.invokestatic 58, 3) := by decide +kernel
theorem dX8_row_4 : decode cX8_row 4 = .ok (.ifCond .eq 18, 3) := by decide +kernel
theorem dX8_row_7 : decode cX8_row 7 = .ok (.iload_n 2, 1) := by decide +kernel
theorem dX8_row_8 : decode cX8_row 8 = .ok (.iconst 0, 1) := by decide +kernel
theorem dX8_row_9 : decode cX8_row 9 = .ok (.iconst 2, 1) := by decide +kernel
theorem dX8_row_10 : decode cX8_row 10 = .ok (.invokestatic 62, 3) := by decide +kernel
theorem dX8_row_13 : decode cX8_row 13 = .ok (.ifCond .eq 9, 3) := by decide +kernel
theorem dX8_row_16 : decode cX8_row 16 = .ok (.iload_n 3, 1) := by decide +kernel
theorem dX8_row_17 : decode cX8_row 17 = .ok (.bipush 40, 2) := by decide +kernel
theorem dX8_row_19 : decode cX8_row 19 = .ok (.if_icmp .le 6, 3) := by decide +kernel
theorem dX8_row_22 : decode cX8_row 22 = .ok (.ldc 66, 2) := by decide +kernel
theorem dX8_row_24 : decode cX8_row 24 = .ok (.ireturn, 1) := by decide +kernel
theorem dX8_row_25 : decode cX8_row 25 = .ok (.iload_n 3, 1) := by decide +kernel
theorem dX8_row_26 : decode cX8_row 26 = .ok (.ifCond .ge 9, 3) := by decide +kernel
theorem dX8_row_29 : decode cX8_row 29 = .ok (.aload_n 0, 1) := by decide +kernel
theorem dX8_row_30 : decode cX8_row 30 = .ok (.iconst 4, 1) := by decide +kernel
theorem dX8_row_31 : decode cX8_row 31 = .ok (.invokevirtual 67, 3) := by decide +kernel
theorem dX8_row_34 : decode cX8_row 34 = .ok (.ireturn, 1) := by decide +kernel
theorem dX8_row_35 : decode cX8_row 35 = .ok (.aload_n 0, 1) := by decide +kernel
theorem dX8_row_36 : decode cX8_row 36 = .ok (.getfield 11, 3) := by decide +kernel
theorem dX8_row_39 : decode cX8_row 39 = .ok (.iload_n 1, 1) := by decide +kernel
theorem dX8_row_40 : decode cX8_row 40 = .ok (.aaload, 1) := by decide +kernel
theorem dX8_row_41 : decode cX8_row 41 = .ok (.iload_n 2, 1) := by decide +kernel
theorem dX8_row_42 : decode cX8_row 42 = .ok (.iload_n 3, 1) := by decide +kernel
theorem dX8_row_43 : decode cX8_row 43 = .ok (.invokevirtual 71, 3) := by decide +kernel
theorem dX8_row_46 : decode cX8_row 46 = .ok (.aload_n 0, 1) := by decide +kernel
theorem dX8_row_47 : decode cX8_row 47 = .ok (.iload_n 3, 1) := by decide +kernel
theorem dX8_row_48 : decode cX8_row 48 = .ok (.invokevirtual 75, 3) := by decide +kernel
theorem dX8_row_51 : decode cX8_row 51 = .ok (.ireturn, 1) := by decide +kernel
theorem dX8_set_0 : decode cX8_set 0 = .ok (.iload_n 1, 1) := by decide +kernel
theorem dX8_set_1 : decode cX8_set 1 = .ok (.invokestatic 58, 3) := by decide +kernel
theorem dX8_set_4 : decode cX8_set 4 = .ok (.ifCond .ne 6, 3) := by decide +kernel
theorem dX8_set_7 : decode cX8_set 7 = .ok (.ldc 66, 2) := by decide +kernel
theorem dX8_set_9 : decode cX8_set 9 = .ok (.ireturn, 1) := by decide +kernel
theorem dX8_set_10 : decode cX8_set 10 = .ok (.aload_n 0, 1) := by decide +kernel
theorem dX8_set_11 : decode cX8_set 11 = .ok (.getfield 11, 3) := by decide +kernel
theorem dX8_set_14 : decode cX8_set 14 = .ok (.iload_n 1, 1) := by decide +kernel
theorem dX8_set_15 : decode cX8_set 15 = .ok (.aaload, 1) := by decide +kernel
theorem dX8_set_16 : decode cX8_set 16 = .ok (.astore 4, 2) := by decide +kernel
theorem dX8_set_18 : decode cX8_set 18 = .ok (.aload 4, 2) := by decide +kernel
theorem dX8_set_20 : decode cX8_set 20 = .ok (.getfield 78, 3) := by decide +kernel
theorem dX8_set_23 : decode cX8_set 23 = .ok (.ifCond .eq 9, 3) := by decide +kernel
theorem dX8_set_26 : decode cX8_set 26 = .ok (.aload_n 0, 1) := by decide +kernel
theorem dX8_set_27 : decode cX8_set 27 = .ok (.iconst 1, 1) := by decide +kernel
theorem dX8_set_28 : decode cX8_set 28 = .ok (.invokevirtual 67, 3) := by decide +kernel
theorem dX8_set_31 : decode cX8_set 31 = .ok (.ireturn, 1) := by decide +kernel
theorem dX8_set_32 : decode cX8_set 32 = .ok (.aload 4, 2) := by decide +kernel
theorem dX8_set_34 : decode cX8_set 34 = .ok (.iload_n 2, 1) := by decide +kernel
theorem dX8_set_35 : decode cX8_set 35 = .ok (.iconst 1, 1) := by decide +kernel
theorem dX8_set_36 : decode cX8_set 36 = .ok (.invokevirtual 82, 3) := by decide +kernel
theorem dX8_set_39 : decode cX8_set 39 = .ok (.ifCond .ne 9, 3) := by decide +kernel
theorem dX8_set_42 : decode cX8_set 42 = .ok (.aload_n 0, 1) := by decide +kernel
theorem dX8_set_43 : decode cX8_set 43 = .ok (.iconst 2, 1) := by decide +kernel
theorem dX8_set_44 : decode cX8_set 44 = .ok (.invokevirtual 67, 3) := by decide +kernel
theorem dX8_set_47 : decode cX8_set 47 = .ok (.ireturn, 1) := by decide +kernel
theorem dX8_set_48 : decode cX8_set 48 = .ok (.aload 4, 2) := by decide +kernel
theorem dX8_set_50 : decode cX8_set 50 = .ok (.getfield 86, 3) := by decide +kernel
theorem dX8_set_53 : decode cX8_set 53 = .ok (.iload_n 2, 1) := by decide +kernel
theorem dX8_set_54 : decode cX8_set 54 = .ok (.aload 4, 2) := by decide +kernel
theorem dX8_set_56 : decode cX8_set 56 = .ok (.iload_n 3, 1) := by decide +kernel
theorem dX8_set_57 : decode cX8_set 57 = .ok (.invokevirtual 90, 3) := by decide +kernel
theorem dX8_set_60 : decode cX8_set 60 = .ok (.iastore, 1) := by decide +kernel
theorem dX8_set_61 : decode cX8_set 61 = .ok (.aload_n 0, 1) := by decide +kernel
theorem dX8_set_62 : decode cX8_set 62 = .ok (.aload 4, 2) := by decide +kernel
theorem dX8_set_64 : decode cX8_set 64 = .ok (.getfield 86, 3) := by decide +kernel
theorem dX8_set_67 : decode cX8_set 67 = .ok (.iload_n 2, 1) := by decide +kernel
theorem dX8_set_68 : decode cX8_set 68 = .ok (.iaload, 1) := by decide +kernel
theorem dX8_set_69 : decode cX8_set 69 = .ok (.invokevirtual 75, 3) := by decide +kernel
theorem dX8_set_72 : decode cX8_set 72 = .ok (.ireturn, 1) := by decide +kernel
theorem dX8_copy_0 : decode cX8_copy 0 = .ok (.iload_n 1, 1) := by decide +kernel
theorem dX8_copy_1 : decode cX8_copy 1 = .ok (.invokestatic 58, 3) := by decide +kernel
theorem dX8_copy_4 : decode cX8_copy 4 = .ok (.ifCond .eq 10, 3) := by decide +kernel
theorem dX8_copy_7 : decode cX8_copy 7 = .ok (.iload_n 3, 1) := by decide +kernel
theorem dX8_copy_8 : decode cX8_copy 8 = .ok (.invokestatic 58, 3) := by decide +kernel
theorem dX8_copy_11 : decode cX8_copy 11 = .ok (.ifCond .ne 6, 3) := by decide +kernel
theorem dX8_copy_14 : decode cX8_copy 14 = .ok (.ldc 66, 2) := by decide +kernel
theorem dX8_copy_16 : decode cX8_copy 16 = .ok (.ireturn, 1) := by decide +kernel
theorem dX8_copy_17 : decode cX8_copy 17 = .ok (.aload_n 0, 1) := by decide +kernel
theorem dX8_copy_18 : decode cX8_copy 18 = .ok (.getfield 11, 3) := by decide +kernel
theorem dX8_copy_21 : decode cX8_copy 21 = .ok (.iload_n 1, 1) := by decide +kernel
theorem dX8_copy_22 : decode cX8_copy 22 = .ok (.aaload, 1) := by decide +kernel
theorem dX8_copy_23 : decode cX8_copy 23 = .ok (.astore 6, 2) := by decide +kernel
theorem dX8_copy_25 : decode cX8_copy 25 = .ok (.aload_n 0, 1) := by decide +kernel
theorem dX8_copy_26 : decode cX8_copy 26 = .ok (.getfield 11, 3) := by decide +kernel
theorem dX8_copy_29 : decode cX8_copy 29 = .ok (.iload_n 3, 1) := by decide +kernel
theorem dX8_copy_30 : decode cX8_copy 30 = .ok (.aaload, 1) := by decide +kernel
theorem dX8_copy_31 : decode cX8_copy 31 = .ok (.astore 7, 2) := by decide +kernel
theorem dX8_copy_33 : decode cX8_copy 33 = .ok (.aload 6, 2) := by decide +kernel
theorem dX8_copy_35 : decode cX8_copy 35 = .ok (.getfield 78, 3) := by decide +kernel
theorem dX8_copy_38 : decode cX8_copy 38 = .ok (.ifCond .ne 11, 3) := by decide +kernel
theorem dX8_copy_41 : decode cX8_copy 41 = .ok (.aload 7, 2) := by decide +kernel
theorem dX8_copy_43 : decode cX8_copy 43 = .ok (.getfield 78, 3) := by decide +kernel
theorem dX8_copy_46 : decode cX8_copy 46 = .ok (.ifCond .eq 9, 3) := by decide +kernel
theorem dX8_copy_49 : decode cX8_copy 49 = .ok (.aload_n 0, 1) := by decide +kernel
theorem dX8_copy_50 : decode cX8_copy 50 = .ok (.iconst 1, 1) := by decide +kernel
theorem dX8_copy_51 : decode cX8_copy 51 = .ok (.invokevirtual 67, 3) := by decide +kernel
theorem dX8_copy_54 : decode cX8_copy 54 = .ok (.ireturn, 1) := by decide +kernel
theorem dX8_copy_55 : decode cX8_copy 55 = .ok (.aload 6, 2) := by decide +kernel
theorem dX8_copy_57 : decode cX8_copy 57 = .ok (.getfield 93, 3) := by decide +kernel
theorem dX8_copy_60 : decode cX8_copy 60 = .ok (.aload 7, 2) := by decide +kernel
theorem dX8_copy_62 : decode cX8_copy 62 = .ok (.getfield 93, 3) := by decide +kernel
theorem dX8_copy_65 : decode cX8_copy 65 = .ok (.if_icmp .eq 9, 3) := by decide +kernel
theorem dX8_copy_68 : decode cX8_copy 68 = .ok (.aload_n 0, 1) := by decide +kernel
theorem dX8_copy_69 : decode cX8_copy 69 = .ok (.iconst 5, 1) := by decide +kernel
theorem dX8_copy_70 : decode cX8_copy 70 = .ok (.invokevirtual 67, 3) := by decide +kernel
theorem dX8_copy_73 : decode cX8_copy 73 = .ok (.ireturn, 1) := by decide +kernel
theorem dX8_copy_74 : decode cX8_copy 74 = .ok (.aload 6, 2) := by decide +kernel
theorem dX8_copy_76 : decode cX8_copy 76 = .ok (.iload_n 2, 1) := by decide +kernel
theorem dX8_copy_77 : decode cX8_copy 77 = .ok (.iload 5, 2) := by decide +kernel
theorem dX8_copy_79 : decode cX8_copy 79 = .ok (.invokevirtual 82, 3) := by decide +kernel
theorem dX8_copy_82 : decode cX8_copy 82 = .ok (.ifCond .eq 15, 3) := by decide +kernel
theorem dX8_copy_85 : decode cX8_copy 85 = .ok (.aload 7, 2) := by decide +kernel
theorem dX8_copy_87 : decode cX8_copy 87 = .ok (.iload 4, 2) := by decide +kernel
theorem dX8_copy_89 : decode cX8_copy 89 = .ok (.iload 5, 2) := by decide +kernel
theorem dX8_copy_91 : decode cX8_copy 91 = .ok (.invokevirtual 82, 3) := by decide +kernel
theorem dX8_copy_94 : decode cX8_copy 94 = .ok (.ifCond .ne 9, 3) := by decide +kernel
theorem dX8_copy_97 : decode cX8_copy 97 = .ok (.aload_n 0, 1) := by decide +kernel
theorem dX8_copy_98 : decode cX8_copy 98 = .ok (.iconst 2, 1) := by decide +kernel
theorem dX8_copy_99 : decode cX8_copy 99 = .ok (.invokevirtual 67, 3) := by decide +kernel
theorem dX8_copy_102 : decode cX8_copy 102 = .ok (.ireturn, 1) := by decide +kernel
theorem dX8_copy_103 : decode cX8_copy 103 = .ok (.aload 6, 2) := by decide +kernel
theorem dX8_copy_105 : decode cX8_copy 105 = .ok (.getfield 86, 3) := by decide +kernel
theorem dX8_copy_108 : decode cX8_copy 108 = .ok (.iload_n 2, 1) := by decide +kernel
theorem dX8_copy_109 : decode cX8_copy 109 = .ok (.aload 7, 2) := by decide +kernel
theorem dX8_copy_111 : decode cX8_copy 111 = .ok (.getfield 86, 3) := by decide +kernel
theorem dX8_copy_114 : decode cX8_copy 114 = .ok (.iload 4, 2) := by decide +kernel
theorem dX8_copy_116 : decode cX8_copy 116 = .ok (.iload 5, 2) := by decide +kernel
theorem dX8_copy_118 : decode cX8_copy 118 = .ok (.invokestatic 97, 3) := by decide +kernel
theorem dX8_copy_121 : decode cX8_copy 121 = .ok (.aload_n 0, 1) := by decide +kernel
theorem dX8_copy_122 : decode cX8_copy 122 = .ok (.iload 5, 2) := by decide +kernel
theorem dX8_copy_124 : decode cX8_copy 124 = .ok (.invokevirtual 75, 3) := by decide +kernel
theorem dX8_copy_127 : decode cX8_copy 127 = .ok (.ireturn, 1) := by decide +kernel
theorem dX8_drop_0 : decode cX8_drop 0 = .ok (.iload_n 1, 1) := by decide +kernel
theorem dX8_drop_1 : decode cX8_drop 1 = .ok (.invokestatic 58, 3) := by decide +kernel
theorem dX8_drop_4 : decode cX8_drop 4 = .ok (.ifCond .ne 6, 3) := by decide +kernel
theorem dX8_drop_7 : decode cX8_drop 7 = .ok (.ldc 66, 2) := by decide +kernel
theorem dX8_drop_9 : decode cX8_drop 9 = .ok (.ireturn, 1) := by decide +kernel
theorem dX8_drop_10 : decode cX8_drop 10 = .ok (.aload_n 0, 1) := by decide +kernel
theorem dX8_drop_11 : decode cX8_drop 11 = .ok (.getfield 11, 3) := by decide +kernel
theorem dX8_drop_14 : decode cX8_drop 14 = .ok (.iload_n 1, 1) := by decide +kernel
theorem dX8_drop_15 : decode cX8_drop 15 = .ok (.aaload, 1) := by decide +kernel
theorem dX8_drop_16 : decode cX8_drop 16 = .ok (.astore_n 2, 1) := by decide +kernel
theorem dX8_drop_17 : decode cX8_drop 17 = .ok (.aload_n 2, 1) := by decide +kernel
theorem dX8_drop_18 : decode cX8_drop 18 = .ok (.getfield 78, 3) := by decide +kernel
theorem dX8_drop_21 : decode cX8_drop 21 = .ok (.ifCond .eq 9, 3) := by decide +kernel
theorem dX8_drop_24 : decode cX8_drop 24 = .ok (.aload_n 0, 1) := by decide +kernel
theorem dX8_drop_25 : decode cX8_drop 25 = .ok (.iconst 1, 1) := by decide +kernel
theorem dX8_drop_26 : decode cX8_drop 26 = .ok (.invokevirtual 67, 3) := by decide +kernel
theorem dX8_drop_29 : decode cX8_drop 29 = .ok (.ireturn, 1) := by decide +kernel
theorem dX8_drop_30 : decode cX8_drop 30 = .ok (.aload_n 2, 1) := by decide +kernel
theorem dX8_drop_31 : decode cX8_drop 31 = .ok (.iconst 1, 1) := by decide +kernel
theorem dX8_drop_32 : decode cX8_drop 32 = .ok (.putfield 78, 3) := by decide +kernel
theorem dX8_drop_35 : decode cX8_drop 35 = .ok (.aload_n 0, 1) := by decide +kernel
theorem dX8_drop_36 : decode cX8_drop 36 = .ok (.aload_n 2, 1) := by decide +kernel
theorem dX8_drop_37 : decode cX8_drop 37 = .ok (.getfield 103, 3) := by decide +kernel
theorem dX8_drop_40 : decode cX8_drop 40 = .ok (.invokevirtual 75, 3) := by decide +kernel
theorem dX8_drop_43 : decode cX8_drop 43 = .ok (.ireturn, 1) := by decide +kernel
theorem dX8_feed_0 : decode cX8_feed 0 = .ok (.iload_n 1, 1) := by decide +kernel
theorem dX8_feed_1 : decode cX8_feed 1 = .ok (.iconst 0, 1) := by decide +kernel
theorem dX8_feed_2 : decode cX8_feed 2 = .ok (.sipush 255, 3) := by decide +kernel
theorem dX8_feed_5 : decode cX8_feed 5 = .ok (.invokestatic 62, 3) := by decide +kernel
theorem dX8_feed_8 : decode cX8_feed 8 = .ok (.ifCond .ne 6, 3) := by decide +kernel
theorem dX8_feed_11 : decode cX8_feed 11 = .ok (.ldc 66, 2) := by decide +kernel
theorem dX8_feed_13 : decode cX8_feed 13 = .ok (.ireturn, 1) := by decide +kernel
theorem dX8_feed_14 : decode cX8_feed 14 = .ok (.aload_n 0, 1) := by decide +kernel
theorem dX8_feed_15 : decode cX8_feed 15 = .ok (.getfield 18, 3) := by decide +kernel
theorem dX8_feed_18 : decode cX8_feed 18 = .ok (.iload_n 1, 1) := by decide +kernel
theorem dX8_feed_19 : decode cX8_feed 19 = .ok (.invokevirtual 106, 3) := by decide +kernel
theorem dX8_feed_22 : decode cX8_feed 22 = .ok (.ifCond .eq 13, 3) := by decide +kernel
theorem dX8_feed_25 : decode cX8_feed 25 = .ok (.aload_n 0, 1) := by decide +kernel
theorem dX8_feed_26 : decode cX8_feed 26 = .ok (.getfield 18, 3) := by decide +kernel
theorem dX8_feed_29 : decode cX8_feed 29 = .ok (.getfield 109, 3) := by decide +kernel
theorem dX8_feed_32 : decode cX8_feed 32 = .ok (.goto 5, 3) := by decide +kernel
theorem dX8_feed_35 : decode cX8_feed 35 = .ok (.ldc 110, 2) := by decide +kernel
theorem dX8_feed_37 : decode cX8_feed 37 = .ok (.ireturn, 1) := by decide +kernel
theorem dX8_hill_0 : decode cX8_hill 0 = .ok (.aload_n 0, 1) := by decide +kernel
theorem dX8_hill_1 : decode cX8_hill 1 = .ok (.getfield 18, 3) := by decide +kernel
theorem dX8_hill_4 : decode cX8_hill 4 = .ok (.aload_n 0, 1) := by decide +kernel
theorem dX8_hill_5 : decode cX8_hill 5 = .ok (.getfield 29, 3) := by decide +kernel
theorem dX8_hill_8 : decode cX8_hill 8 = .ok (.invokevirtual 111, 3) := by decide +kernel
theorem dX8_hill_11 : decode cX8_hill 11 = .ok (.istore_n 1, 1) := by decide +kernel
theorem dX8_hill_12 : decode cX8_hill 12 = .ok (.aload_n 0, 1) := by decide +kernel
theorem dX8_hill_13 : decode cX8_hill 13 = .ok (.getfield 18, 3) := by decide +kernel
theorem dX8_hill_16 : decode cX8_hill 16 = .ok (.iconst 0, 1) := by decide +kernel
theorem dX8_hill_17 : decode cX8_hill 17 = .ok (.putfield 109, 3) := by decide +kernel
theorem dX8_hill_20 : decode cX8_hill 20 = .ok (.iload_n 1, 1) := by decide +kernel
theorem dX8_hill_21 : decode cX8_hill 21 = .ok (.ifCond .ne 25, 3) := by decide +kernel
theorem dX8_hill_24 : decode cX8_hill 24 = .ok (.aload_n 0, 1) := by decide +kernel
theorem dX8_hill_25 : decode cX8_hill 25 = .ok (.aload_n 0, 1) := by decide +kernel
theorem dX8_hill_26 : decode cX8_hill 26 = .ok (.getfield 18, 3) := by decide +kernel
theorem dX8_hill_29 : decode cX8_hill 29 = .ok (.getfield 115, 3) := by decide +kernel
theorem dX8_hill_32 : decode cX8_hill 32 = .ok (.putfield 118, 3) := by decide +kernel
theorem dX8_hill_35 : decode cX8_hill 35 = .ok (.ldc 121, 2) := by decide +kernel
theorem dX8_hill_37 : decode cX8_hill 37 = .ok (.aload_n 0, 1) := by decide +kernel
theorem dX8_hill_38 : decode cX8_hill 38 = .ok (.getfield 18, 3) := by decide +kernel
theorem dX8_hill_41 : decode cX8_hill 41 = .ok (.getfield 122, 3) := by decide +kernel
theorem dX8_hill_44 : decode cX8_hill 44 = .ok (.isub, 1) := by decide +kernel
theorem dX8_hill_45 : decode cX8_hill 45 = .ok (.ireturn, 1) := by decide +kernel
theorem dX8_hill_46 : decode cX8_hill 46 = .ok (.aload_n 0, 1) := by decide +kernel
theorem dX8_hill_47 : decode cX8_hill 47 = .ok (.getfield 25, 3) := by decide +kernel
theorem dX8_hill_50 : decode cX8_hill 50 = .ok (.aload_n 0, 1) := by decide +kernel
theorem dX8_hill_51 : decode cX8_hill 51 = .ok (.getfield 29, 3) := by decide +kernel
theorem dX8_hill_54 : decode cX8_hill 54 = .ok (.invokevirtual 125, 3) := by decide +kernel
theorem dX8_hill_57 : decode cX8_hill 57 = .ok (.aload_n 0, 1) := by decide +kernel
theorem dX8_hill_58 : decode cX8_hill 58 = .ok (.getfield 39, 3) := by decide +kernel
theorem dX8_hill_61 : decode cX8_hill 61 = .ok (.iconst 0, 1) := by decide +kernel
theorem dX8_hill_62 : decode cX8_hill 62 = .ok (.putfield 129, 3) := by decide +kernel
theorem dX8_hill_65 : decode cX8_hill 65 = .ok (.aload_n 0, 1) := by decide +kernel
theorem dX8_hill_66 : decode cX8_hill 66 = .ok (.getfield 25, 3) := by decide +kernel
theorem dX8_hill_69 : decode cX8_hill 69 = .ok (.getfield 132, 3) := by decide +kernel
theorem dX8_hill_72 : decode cX8_hill 72 = .ok (.ireturn, 1) := by decide +kernel
theorem dX8_fault_0 : decode cX8_fault 0 = .ok (.aload_n 0, 1) := by decide +kernel
theorem dX8_fault_1 : decode cX8_fault 1 = .ok (.getfield 118, 3) := by decide +kernel
theorem dX8_fault_4 : decode cX8_fault 4 = .ok (.ireturn, 1) := by decide +kernel
theorem dX8_years_0 : decode cX8_years 0 = .ok (.aload_n 0, 1) := by decide +kernel
theorem dX8_years_1 : decode cX8_years 1 = .ok (.getfield 25, 3) := by decide +kernel
theorem dX8_years_4 : decode cX8_years 4 = .ok (.getfield 135, 3) := by decide +kernel
theorem dX8_years_7 : decode cX8_years 7 = .ok (.ifCond .ne 6, 3) := by decide +kernel
theorem dX8_years_10 : decode cX8_years 10 = .ok (.ldc 138, 2) := by decide +kernel
theorem dX8_years_12 : decode cX8_years 12 = .ok (.ireturn, 1) := by decide +kernel
theorem dX8_years_13 : decode cX8_years 13 = .ok (.iload_n 1, 1) := by decide +kernel
theorem dX8_years_14 : decode cX8_years 14 = .ok (.iconst 1, 1) := by decide +kernel
theorem dX8_years_15 : decode cX8_years 15 = .ok (.bipush 24, 2) := by decide +kernel
theorem dX8_years_17 : decode cX8_years 17 = .ok (.invokestatic 62, 3) := by decide +kernel
theorem dX8_years_20 : decode cX8_years 20 = .ok (.ifCond .ne 6, 3) := by decide +kernel
theorem dX8_years_23 : decode cX8_years 23 = .ok (.ldc 66, 2) := by decide +kernel
theorem dX8_years_25 : decode cX8_years 25 = .ok (.ireturn, 1) := by decide +kernel
theorem dX8_years_26 : decode cX8_years 26 = .ok (.aload_n 0, 1) := by decide +kernel
theorem dX8_years_27 : decode cX8_years 27 = .ok (.getfield 25, 3) := by decide +kernel
theorem dX8_years_30 : decode cX8_years 30 = .ok (.getfield 139, 3) := by decide +kernel
theorem dX8_years_33 : decode cX8_years 33 = .ok (.iload_n 1, 1) := by decide +kernel
theorem dX8_years_34 : decode cX8_years 34 = .ok (.iadd, 1) := by decide +kernel
theorem dX8_years_35 : decode cX8_years 35 = .ok (.sipush 999, 3) := by decide +kernel
theorem dX8_years_38 : decode cX8_years 38 = .ok (.if_icmp .le 6, 3) := by decide +kernel
theorem dX8_years_41 : decode cX8_years 41 = .ok (.ldc 110, 2) := by decide +kernel
theorem dX8_years_43 : decode cX8_years 43 = .ok (.ireturn, 1) := by decide +kernel
theorem dX8_years_44 : decode cX8_years 44 = .ok (.iconst (-1), 1) := by decide +kernel
theorem dX8_years_45 : decode cX8_years 45 = .ok (.istore_n 2, 1) := by decide +kernel
theorem dX8_years_46 : decode cX8_years 46 = .ok (.iconst 0, 1) := by decide +kernel
theorem dX8_years_47 : decode cX8_years 47 = .ok (.istore_n 3, 1) := by decide +kernel
theorem dX8_years_48 : decode cX8_years 48 = .ok (.iload_n 3, 1) := by decide +kernel
theorem dX8_years_49 : decode cX8_years 49 = .ok (.iload_n 1, 1) := by decide +kernel
theorem dX8_years_50 : decode cX8_years 50 = .ok (.if_icmp .ge 27, 3) := by decide +kernel
theorem dX8_years_53 : decode cX8_years 53 = .ok (.aload_n 0, 1) := by decide +kernel
theorem dX8_years_54 : decode cX8_years 54 = .ok (.getfield 25, 3) := by decide +kernel
theorem dX8_years_57 : decode cX8_years 57 = .ok (.invokevirtual 142, 3) := by decide +kernel
theorem dX8_years_60 : decode cX8_years 60 = .ok (.istore_n 2, 1) := by decide +kernel
theorem dX8_years_61 : decode cX8_years 61 = .ok (.aload_n 0, 1) := by decide +kernel
theorem dX8_years_62 : decode cX8_years 62 = .ok (.getfield 39, 3) := by decide +kernel
theorem dX8_years_65 : decode cX8_years 65 = .ok (.iconst 0, 1) := by decide +kernel
theorem dX8_years_66 : decode cX8_years 66 = .ok (.iload_n 2, 1) := by decide +kernel
theorem dX8_years_67 : decode cX8_years 67 = .ok (.iconst 0, 1) := by decide +kernel
theorem dX8_years_68 : decode cX8_years 68 = .ok (.invokevirtual 146, 3) := by decide +kernel
theorem dX8_years_71 : decode cX8_years 71 = .ok (.iinc 3 1, 3) := by decide +kernel
theorem dX8_years_74 : decode cX8_years 74 = .ok (.goto (-26), 3) := by decide +kernel
theorem dX8_years_77 : decode cX8_years 77 = .ok (.iload_n 2, 1) := by decide +kernel
theorem dX8_years_78 : decode cX8_years 78 = .ok (.invokestatic 150, 3) := by decide +kernel
theorem dX8_years_81 : decode cX8_years 81 = .ok (.ireturn, 1) := by decide +kernel
theorem dX8_door_0 : decode cX8_door 0 = .ok (.aload_n 0, 1) := by decide +kernel
theorem dX8_door_1 : decode cX8_door 1 = .ok (.iload_n 1, 1) := by decide +kernel
theorem dX8_door_2 : decode cX8_door 2 = .ok (.invokevirtual 153, 3) := by decide +kernel
theorem dX8_door_5 : decode cX8_door 5 = .ok (.ifCond .eq 12, 3) := by decide +kernel
theorem dX8_door_8 : decode cX8_door 8 = .ok (.iload_n 2, 1) := by decide +kernel
theorem dX8_door_9 : decode cX8_door 9 = .ok (.iconst 0, 1) := by decide +kernel
theorem dX8_door_10 : decode cX8_door 10 = .ok (.iconst 1, 1) := by decide +kernel
theorem dX8_door_11 : decode cX8_door 11 = .ok (.invokestatic 62, 3) := by decide +kernel
theorem dX8_door_14 : decode cX8_door 14 = .ok (.ifCond .ne 6, 3) := by decide +kernel
theorem dX8_door_17 : decode cX8_door 17 = .ok (.ldc 66, 2) := by decide +kernel
theorem dX8_door_19 : decode cX8_door 19 = .ok (.ireturn, 1) := by decide +kernel
theorem dX8_door_20 : decode cX8_door 20 = .ok (.aload_n 0, 1) := by decide +kernel
theorem dX8_door_21 : decode cX8_door 21 = .ok (.getfield 25, 3) := by decide +kernel
theorem dX8_door_24 : decode cX8_door 24 = .ok (.iload_n 1, 1) := by decide +kernel
theorem dX8_door_25 : decode cX8_door 25 = .ok (.invokevirtual 156, 3) := by decide +kernel
theorem dX8_door_28 : decode cX8_door 28 = .ok (.iload_n 2, 1) := by decide +kernel
theorem dX8_door_29 : decode cX8_door 29 = .ok (.if_icmp .ne 6, 3) := by decide +kernel
theorem dX8_door_32 : decode cX8_door 32 = .ok (.ldc 138, 2) := by decide +kernel
theorem dX8_door_34 : decode cX8_door 34 = .ok (.ireturn, 1) := by decide +kernel
theorem dX8_door_35 : decode cX8_door 35 = .ok (.aload_n 0, 1) := by decide +kernel
theorem dX8_door_36 : decode cX8_door 36 = .ok (.getfield 25, 3) := by decide +kernel
theorem dX8_door_39 : decode cX8_door 39 = .ok (.dup, 1) := by decide +kernel
theorem dX8_door_40 : decode cX8_door 40 = .ok (.getfield 159, 3) := by decide +kernel
theorem dX8_door_43 : decode cX8_door 43 = .ok (.iconst 1, 1) := by decide +kernel
theorem dX8_door_44 : decode cX8_door 44 = .ok (.iload_n 1, 1) := by decide +kernel
theorem dX8_door_45 : decode cX8_door 45 = .ok (.ishl, 1) := by decide +kernel
theorem dX8_door_46 : decode cX8_door 46 = .ok (.ixor, 1) := by decide +kernel
theorem dX8_door_47 : decode cX8_door 47 = .ok (.putfield 159, 3) := by decide +kernel
theorem dX8_door_50 : decode cX8_door 50 = .ok (.aload_n 0, 1) := by decide +kernel
theorem dX8_door_51 : decode cX8_door 51 = .ok (.getfield 39, 3) := by decide +kernel
theorem dX8_door_54 : decode cX8_door 54 = .ok (.iconst 1, 1) := by decide +kernel
theorem dX8_door_55 : decode cX8_door 55 = .ok (.iload_n 1, 1) := by decide +kernel
theorem dX8_door_56 : decode cX8_door 56 = .ok (.iconst 0, 1) := by decide +kernel
theorem dX8_door_57 : decode cX8_door 57 = .ok (.invokevirtual 146, 3) := by decide +kernel
theorem dX8_door_60 : decode cX8_door 60 = .ok (.aload_n 0, 1) := by decide +kernel
theorem dX8_door_61 : decode cX8_door 61 = .ok (.getfield 25, 3) := by decide +kernel
theorem dX8_door_64 : decode cX8_door 64 = .ok (.getfield 159, 3) := by decide +kernel
theorem dX8_door_67 : decode cX8_door 67 = .ok (.ireturn, 1) := by decide +kernel
theorem dX8_build_0 : decode cX8_build 0 = .ok (.aload_n 0, 1) := by decide +kernel
theorem dX8_build_1 : decode cX8_build 1 = .ok (.iload_n 1, 1) := by decide +kernel
theorem dX8_build_2 : decode cX8_build 2 = .ok (.invokevirtual 153, 3) := by decide +kernel
theorem dX8_build_5 : decode cX8_build 5 = .ok (.ifCond .eq 12, 3) := by decide +kernel
theorem dX8_build_8 : decode cX8_build 8 = .ok (.aload_n 0, 1) := by decide +kernel
theorem dX8_build_9 : decode cX8_build 9 = .ok (.iload_n 2, 1) := by decide +kernel
theorem dX8_build_10 : decode cX8_build 10 = .ok (.iload_n 3, 1) := by decide +kernel
theorem dX8_build_11 : decode cX8_build 11 = .ok (.invokevirtual 162, 3) := by decide +kernel
theorem dX8_build_14 : decode cX8_build 14 = .ok (.ifCond .ne 6, 3) := by decide +kernel
theorem dX8_build_17 : decode cX8_build 17 = .ok (.ldc 66, 2) := by decide +kernel
theorem dX8_build_19 : decode cX8_build 19 = .ok (.ireturn, 1) := by decide +kernel
theorem dX8_build_20 : decode cX8_build 20 = .ok (.aload_n 0, 1) := by decide +kernel
theorem dX8_build_21 : decode cX8_build 21 = .ok (.getfield 25, 3) := by decide +kernel
theorem dX8_build_24 : decode cX8_build 24 = .ok (.iload_n 2, 1) := by decide +kernel
theorem dX8_build_25 : decode cX8_build 25 = .ok (.iload_n 3, 1) := by decide +kernel
theorem dX8_build_26 : decode cX8_build 26 = .ok (.invokevirtual 165, 3) := by decide +kernel
theorem dX8_build_29 : decode cX8_build 29 = .ok (.ifCond .lt 6, 3) := by decide +kernel
theorem dX8_build_32 : decode cX8_build 32 = .ok (.ldc 138, 2) := by decide +kernel
theorem dX8_build_34 : decode cX8_build 34 = .ok (.ireturn, 1) := by decide +kernel
theorem dX8_build_35 : decode cX8_build 35 = .ok (.aload_n 0, 1) := by decide +kernel
theorem dX8_build_36 : decode cX8_build 36 = .ok (.getfield 25, 3) := by decide +kernel
theorem dX8_build_39 : decode cX8_build 39 = .ok (.getfield 169, 3) := by decide +kernel
theorem dX8_build_42 : decode cX8_build 42 = .ok (.iload_n 1, 1) := by decide +kernel
theorem dX8_build_43 : decode cX8_build 43 = .ok (.aaload, 1) := by decide +kernel
theorem dX8_build_44 : decode cX8_build 44 = .ok (.invokevirtual 173, 3) := by decide +kernel
theorem dX8_build_47 : decode cX8_build 47 = .ok (.istore 4, 2) := by decide +kernel
theorem dX8_build_49 : decode cX8_build 49 = .ok (.aload_n 0, 1) := by decide +kernel
theorem dX8_build_50 : decode cX8_build 50 = .ok (.getfield 25, 3) := by decide +kernel
theorem dX8_build_53 : decode cX8_build 53 = .ok (.getfield 169, 3) := by decide +kernel
theorem dX8_build_56 : decode cX8_build 56 = .ok (.iload_n 1, 1) := by decide +kernel
theorem dX8_build_57 : decode cX8_build 57 = .ok (.aaload, 1) := by decide +kernel
theorem dX8_build_58 : decode cX8_build 58 = .ok (.iload_n 2, 1) := by decide +kernel
theorem dX8_build_59 : decode cX8_build 59 = .ok (.iload_n 3, 1) := by decide +kernel
theorem dX8_build_60 : decode cX8_build 60 = .ok (.invokevirtual 178, 3) := by decide +kernel
theorem dX8_build_63 : decode cX8_build 63 = .ok (.aload_n 0, 1) := by decide +kernel
theorem dX8_build_64 : decode cX8_build 64 = .ok (.getfield 39, 3) := by decide +kernel
theorem dX8_build_67 : decode cX8_build 67 = .ok (.iconst 2, 1) := by decide +kernel
theorem dX8_build_68 : decode cX8_build 68 = .ok (.iload_n 1, 1) := by decide +kernel
theorem dX8_build_69 : decode cX8_build 69 = .ok (.iload 4, 2) := by decide +kernel
theorem dX8_build_71 : decode cX8_build 71 = .ok (.invokevirtual 146, 3) := by decide +kernel
theorem dX8_build_74 : decode cX8_build 74 = .ok (.iload 4, 2) := by decide +kernel
theorem dX8_build_76 : decode cX8_build 76 = .ok (.ireturn, 1) := by decide +kernel
theorem dX8_speed_0 : decode cX8_speed 0 = .ok (.aload_n 0, 1) := by decide +kernel
theorem dX8_speed_1 : decode cX8_speed 1 = .ok (.getfield 25, 3) := by decide +kernel
theorem dX8_speed_4 : decode cX8_speed 4 = .ok (.getfield 135, 3) := by decide +kernel
theorem dX8_speed_7 : decode cX8_speed 7 = .ok (.ifCond .ne 6, 3) := by decide +kernel
theorem dX8_speed_10 : decode cX8_speed 10 = .ok (.ldc 138, 2) := by decide +kernel
theorem dX8_speed_12 : decode cX8_speed 12 = .ok (.ireturn, 1) := by decide +kernel
theorem dX8_speed_13 : decode cX8_speed 13 = .ok (.iload_n 1, 1) := by decide +kernel
theorem dX8_speed_14 : decode cX8_speed 14 = .ok (.iconst 1, 1) := by decide +kernel
theorem dX8_speed_15 : decode cX8_speed 15 = .ok (.bipush 9, 2) := by decide +kernel
theorem dX8_speed_17 : decode cX8_speed 17 = .ok (.invokestatic 62, 3) := by decide +kernel
theorem dX8_speed_20 : decode cX8_speed 20 = .ok (.ifCond .ne 6, 3) := by decide +kernel
theorem dX8_speed_23 : decode cX8_speed 23 = .ok (.ldc 66, 2) := by decide +kernel
theorem dX8_speed_25 : decode cX8_speed 25 = .ok (.ireturn, 1) := by decide +kernel
theorem dX8_speed_26 : decode cX8_speed 26 = .ok (.aload_n 0, 1) := by decide +kernel
theorem dX8_speed_27 : decode cX8_speed 27 = .ok (.getfield 25, 3) := by decide +kernel
theorem dX8_speed_30 : decode cX8_speed 30 = .ok (.getfield 181, 3) := by decide +kernel
theorem dX8_speed_33 : decode cX8_speed 33 = .ok (.istore_n 2, 1) := by decide +kernel
theorem dX8_speed_34 : decode cX8_speed 34 = .ok (.aload_n 0, 1) := by decide +kernel
theorem dX8_speed_35 : decode cX8_speed 35 = .ok (.getfield 25, 3) := by decide +kernel
theorem dX8_speed_38 : decode cX8_speed 38 = .ok (.iload_n 1, 1) := by decide +kernel
theorem dX8_speed_39 : decode cX8_speed 39 = .ok (.putfield 181, 3) := by decide +kernel
theorem dX8_speed_42 : decode cX8_speed 42 = .ok (.aload_n 0, 1) := by decide +kernel
theorem dX8_speed_43 : decode cX8_speed 43 = .ok (.getfield 39, 3) := by decide +kernel
theorem dX8_speed_46 : decode cX8_speed 46 = .ok (.iconst 3, 1) := by decide +kernel
theorem dX8_speed_47 : decode cX8_speed 47 = .ok (.iconst (-1), 1) := by decide +kernel
theorem dX8_speed_48 : decode cX8_speed 48 = .ok (.iload_n 2, 1) := by decide +kernel
theorem dX8_speed_49 : decode cX8_speed 49 = .ok (.invokevirtual 146, 3) := by decide +kernel
theorem dX8_speed_52 : decode cX8_speed 52 = .ok (.iload_n 2, 1) := by decide +kernel
theorem dX8_speed_53 : decode cX8_speed 53 = .ok (.ireturn, 1) := by decide +kernel
theorem dX8_undo_0 : decode cX8_undo 0 = .ok (.aload_n 0, 1) := by decide +kernel
theorem dX8_undo_1 : decode cX8_undo 1 = .ok (.getfield 39, 3) := by decide +kernel
theorem dX8_undo_4 : decode cX8_undo 4 = .ok (.getfield 129, 3) := by decide +kernel
theorem dX8_undo_7 : decode cX8_undo 7 = .ok (.iconst 1, 1) := by decide +kernel
theorem dX8_undo_8 : decode cX8_undo 8 = .ok (.if_icmp .ge 6, 3) := by decide +kernel
theorem dX8_undo_11 : decode cX8_undo 11 = .ok (.ldc 138, 2) := by decide +kernel
theorem dX8_undo_13 : decode cX8_undo 13 = .ok (.ireturn, 1) := by decide +kernel
theorem dX8_undo_14 : decode cX8_undo 14 = .ok (.aload_n 0, 1) := by decide +kernel
theorem dX8_undo_15 : decode cX8_undo 15 = .ok (.getfield 39, 3) := by decide +kernel
theorem dX8_undo_18 : decode cX8_undo 18 = .ok (.aload_n 0, 1) := by decide +kernel
theorem dX8_undo_19 : decode cX8_undo 19 = .ok (.getfield 25, 3) := by decide +kernel
theorem dX8_undo_22 : decode cX8_undo 22 = .ok (.invokevirtual 184, 3) := by decide +kernel
theorem dX8_undo_25 : decode cX8_undo 25 = .ok (.aload_n 0, 1) := by decide +kernel
theorem dX8_undo_26 : decode cX8_undo 26 = .ok (.getfield 39, 3) := by decide +kernel
theorem dX8_undo_29 : decode cX8_undo 29 = .ok (.getfield 129, 3) := by decide +kernel
theorem dX8_undo_32 : decode cX8_undo 32 = .ok (.ireturn, 1) := by decide +kernel
theorem dX8_house_0 : decode cX8_house 0 = .ok (.aload_n 0, 1) := by decide +kernel
theorem dX8_house_1 : decode cX8_house 1 = .ok (.iload_n 1, 1) := by decide +kernel
theorem dX8_house_2 : decode cX8_house 2 = .ok (.invokevirtual 153, 3) := by decide +kernel
theorem dX8_house_5 : decode cX8_house 5 = .ok (.ifCond .ne 6, 3) := by decide +kernel
theorem dX8_house_8 : decode cX8_house 8 = .ok (.ldc 66, 2) := by decide +kernel
theorem dX8_house_10 : decode cX8_house 10 = .ok (.ireturn, 1) := by decide +kernel
theorem dX8_house_11 : decode cX8_house 11 = .ok (.aload_n 0, 1) := by decide +kernel
theorem dX8_house_12 : decode cX8_house 12 = .ok (.getfield 25, 3) := by decide +kernel
theorem dX8_house_15 : decode cX8_house 15 = .ok (.getfield 169, 3) := by decide +kernel
theorem dX8_house_18 : decode cX8_house 18 = .ok (.iload_n 1, 1) := by decide +kernel
theorem dX8_house_19 : decode cX8_house 19 = .ok (.aaload, 1) := by decide +kernel
theorem dX8_house_20 : decode cX8_house 20 = .ok (.astore_n 3, 1) := by decide +kernel
theorem dX8_house_21 : decode cX8_house 21 = .ok (.iload_n 2, 1) := by decide +kernel
theorem dX8_house_22 : decode cX8_house 22 = .ok (.tableswitch 63 0 4 #[34, 39, 44, 49, 58], 34) := by decide +kernel
theorem dX8_house_56 : decode cX8_house 56 = .ok (.aload_n 3, 1) := by decide +kernel
theorem dX8_house_57 : decode cX8_house 57 = .ok (.getfield 187, 3) := by decide +kernel
theorem dX8_house_60 : decode cX8_house 60 = .ok (.ireturn, 1) := by decide +kernel
theorem dX8_house_61 : decode cX8_house 61 = .ok (.aload_n 3, 1) := by decide +kernel
theorem dX8_house_62 : decode cX8_house 62 = .ok (.getfield 190, 3) := by decide +kernel
theorem dX8_house_65 : decode cX8_house 65 = .ok (.ireturn, 1) := by decide +kernel
theorem dX8_house_66 : decode cX8_house 66 = .ok (.aload_n 3, 1) := by decide +kernel
theorem dX8_house_67 : decode cX8_house 67 = .ok (.getfield 193, 3) := by decide +kernel
theorem dX8_house_70 : decode cX8_house 70 = .ok (.ireturn, 1) := by decide +kernel
theorem dX8_house_71 : decode cX8_house 71 = .ok (.aload_n 0, 1) := by decide +kernel
theorem dX8_house_72 : decode cX8_house 72 = .ok (.getfield 25, 3) := by decide +kernel
theorem dX8_house_75 : decode cX8_house 75 = .ok (.iload_n 1, 1) := by decide +kernel
theorem dX8_house_76 : decode cX8_house 76 = .ok (.invokevirtual 156, 3) := by decide +kernel
theorem dX8_house_79 : decode cX8_house 79 = .ok (.ireturn, 1) := by decide +kernel
theorem dX8_house_80 : decode cX8_house 80 = .ok (.aload_n 3, 1) := by decide +kernel
theorem dX8_house_81 : decode cX8_house 81 = .ok (.getfield 196, 3) := by decide +kernel
theorem dX8_house_84 : decode cX8_house 84 = .ok (.ireturn, 1) := by decide +kernel
theorem dX8_house_85 : decode cX8_house 85 = .ok (.ldc 66, 2) := by decide +kernel
theorem dX8_house_87 : decode cX8_house 87 = .ok (.ireturn, 1) := by decide +kernel
theorem dX8_at_0 : decode cX8_at 0 = .ok (.aload_n 0, 1) := by decide +kernel
theorem dX8_at_1 : decode cX8_at 1 = .ok (.iload_n 1, 1) := by decide +kernel
theorem dX8_at_2 : decode cX8_at 2 = .ok (.iload_n 2, 1) := by decide +kernel
theorem dX8_at_3 : decode cX8_at 3 = .ok (.invokevirtual 162, 3) := by decide +kernel
theorem dX8_at_6 : decode cX8_at 6 = .ok (.ifCond .eq 18, 3) := by decide +kernel
theorem dX8_at_9 : decode cX8_at 9 = .ok (.aload_n 0, 1) := by decide +kernel
theorem dX8_at_10 : decode cX8_at 10 = .ok (.getfield 25, 3) := by decide +kernel
theorem dX8_at_13 : decode cX8_at 13 = .ok (.iload_n 1, 1) := by decide +kernel
theorem dX8_at_14 : decode cX8_at 14 = .ok (.iload_n 2, 1) := by decide +kernel
theorem dX8_at_15 : decode cX8_at 15 = .ok (.invokevirtual 165, 3) := by decide +kernel
theorem dX8_at_18 : decode cX8_at 18 = .ok (.invokestatic 150, 3) := by decide +kernel
theorem dX8_at_21 : decode cX8_at 21 = .ok (.goto 5, 3) := by decide +kernel
theorem dX8_at_24 : decode cX8_at 24 = .ok (.ldc 66, 2) := by decide +kernel
theorem dX8_at_26 : decode cX8_at 26 = .ok (.ireturn, 1) := by decide +kernel
theorem dX8_rests_0 : decode cX8_rests 0 = .ok (.aload_n 0, 1) := by decide +kernel
theorem dX8_rests_1 : decode cX8_rests 1 = .ok (.getfield 25, 3) := by decide +kernel
theorem dX8_rests_4 : decode cX8_rests 4 = .ok (.getfield 135, 3) := by decide +kernel
theorem dX8_rests_7 : decode cX8_rests 7 = .ok (.ifCond .ne 6, 3) := by decide +kernel
theorem dX8_rests_10 : decode cX8_rests 10 = .ok (.ldc 138, 2) := by decide +kernel
theorem dX8_rests_12 : decode cX8_rests 12 = .ok (.ireturn, 1) := by decide +kernel
theorem dX8_rests_13 : decode cX8_rests 13 = .ok (.iload_n 1, 1) := by decide +kernel
theorem dX8_rests_14 : decode cX8_rests 14 = .ok (.iconst 0, 1) := by decide +kernel
theorem dX8_rests_15 : decode cX8_rests 15 = .ok (.bipush 60, 2) := by decide +kernel
theorem dX8_rests_17 : decode cX8_rests 17 = .ok (.invokestatic 62, 3) := by decide +kernel
theorem dX8_rests_20 : decode cX8_rests 20 = .ok (.ifCond .eq 17, 3) := by decide +kernel
theorem dX8_rests_23 : decode cX8_rests 23 = .ok (.aload_n 0, 1) := by decide +kernel
theorem dX8_rests_24 : decode cX8_rests 24 = .ok (.getfield 25, 3) := by decide +kernel
theorem dX8_rests_27 : decode cX8_rests 27 = .ok (.iload_n 1, 1) := by decide +kernel
theorem dX8_rests_28 : decode cX8_rests 28 = .ok (.invokevirtual 199, 3) := by decide +kernel
theorem dX8_rests_31 : decode cX8_rests 31 = .ok (.invokestatic 150, 3) := by decide +kernel
theorem dX8_rests_34 : decode cX8_rests 34 = .ok (.goto 5, 3) := by decide +kernel
theorem dX8_rests_37 : decode cX8_rests 37 = .ok (.ldc 66, 2) := by decide +kernel
theorem dX8_rests_39 : decode cX8_rests 39 = .ok (.ireturn, 1) := by decide +kernel
theorem dX8_line_0 : decode cX8_line 0 = .ok (.aload_n 0, 1) := by decide +kernel
theorem dX8_line_1 : decode cX8_line 1 = .ok (.getfield 25, 3) := by decide +kernel
theorem dX8_line_4 : decode cX8_line 4 = .ok (.getfield 135, 3) := by decide +kernel
theorem dX8_line_7 : decode cX8_line 7 = .ok (.ifCond .ne 6, 3) := by decide +kernel
theorem dX8_line_10 : decode cX8_line 10 = .ok (.ldc 138, 2) := by decide +kernel
theorem dX8_line_12 : decode cX8_line 12 = .ok (.ireturn, 1) := by decide +kernel
theorem dX8_line_13 : decode cX8_line 13 = .ok (.iload_n 1, 1) := by decide +kernel
theorem dX8_line_14 : decode cX8_line 14 = .ok (.iconst 0, 1) := by decide +kernel
theorem dX8_line_15 : decode cX8_line 15 = .ok (.aload_n 0, 1) := by decide +kernel
theorem dX8_line_16 : decode cX8_line 16 = .ok (.getfield 25, 3) := by decide +kernel
theorem dX8_line_19 : decode cX8_line 19 = .ok (.getfield 202, 3) := by decide +kernel
theorem dX8_line_22 : decode cX8_line 22 = .ok (.invokestatic 62, 3) := by decide +kernel
theorem dX8_line_25 : decode cX8_line 25 = .ok (.ifCond .eq 13, 3) := by decide +kernel
theorem dX8_line_28 : decode cX8_line 28 = .ok (.iload_n 2, 1) := by decide +kernel
theorem dX8_line_29 : decode cX8_line 29 = .ok (.iconst 0, 1) := by decide +kernel
theorem dX8_line_30 : decode cX8_line 30 = .ok (.bipush 60, 2) := by decide +kernel
theorem dX8_line_32 : decode cX8_line 32 = .ok (.invokestatic 62, 3) := by decide +kernel
theorem dX8_line_35 : decode cX8_line 35 = .ok (.ifCond .ne 6, 3) := by decide +kernel
theorem dX8_line_38 : decode cX8_line 38 = .ok (.ldc 66, 2) := by decide +kernel
theorem dX8_line_40 : decode cX8_line 40 = .ok (.ireturn, 1) := by decide +kernel
theorem dX8_line_41 : decode cX8_line 41 = .ok (.aload_n 0, 1) := by decide +kernel
theorem dX8_line_42 : decode cX8_line 42 = .ok (.getfield 25, 3) := by decide +kernel
theorem dX8_line_45 : decode cX8_line 45 = .ok (.iload_n 2, 1) := by decide +kernel
theorem dX8_line_46 : decode cX8_line 46 = .ok (.invokevirtual 199, 3) := by decide +kernel
theorem dX8_line_49 : decode cX8_line 49 = .ok (.pop, 1) := by decide +kernel
theorem dX8_line_50 : decode cX8_line 50 = .ok (.iload_n 1, 1) := by decide +kernel
theorem dX8_line_51 : decode cX8_line 51 = .ok (.aload_n 0, 1) := by decide +kernel
theorem dX8_line_52 : decode cX8_line 52 = .ok (.getfield 25, 3) := by decide +kernel
theorem dX8_line_55 : decode cX8_line 55 = .ok (.getfield 205, 3) := by decide +kernel
theorem dX8_line_58 : decode cX8_line 58 = .ok (.getfield 209, 3) := by decide +kernel
theorem dX8_line_61 : decode cX8_line 61 = .ok (.if_icmp .gt 18, 3) := by decide +kernel
theorem dX8_line_64 : decode cX8_line 64 = .ok (.aload_n 0, 1) := by decide +kernel
theorem dX8_line_65 : decode cX8_line 65 = .ok (.getfield 25, 3) := by decide +kernel
theorem dX8_line_68 : decode cX8_line 68 = .ok (.getfield 205, 3) := by decide +kernel
theorem dX8_line_71 : decode cX8_line 71 = .ok (.getfield 214, 3) := by decide +kernel
theorem dX8_line_74 : decode cX8_line 74 = .ok (.iload_n 1, 1) := by decide +kernel
theorem dX8_line_75 : decode cX8_line 75 = .ok (.iaload, 1) := by decide +kernel
theorem dX8_line_76 : decode cX8_line 76 = .ok (.goto 5, 3) := by decide +kernel
theorem dX8_line_79 : decode cX8_line 79 = .ok (.ldc 217, 2) := by decide +kernel
theorem dX8_line_81 : decode cX8_line 81 = .ok (.ireturn, 1) := by decide +kernel
theorem dX8_left_0 : decode cX8_left 0 = .ok (.aload_n 0, 1) := by decide +kernel
theorem dX8_left_1 : decode cX8_left 1 = .ok (.getfield 25, 3) := by decide +kernel
theorem dX8_left_4 : decode cX8_left 4 = .ok (.getfield 135, 3) := by decide +kernel
theorem dX8_left_7 : decode cX8_left 7 = .ok (.ifCond .ne 6, 3) := by decide +kernel
theorem dX8_left_10 : decode cX8_left 10 = .ok (.ldc 138, 2) := by decide +kernel
theorem dX8_left_12 : decode cX8_left 12 = .ok (.ireturn, 1) := by decide +kernel
theorem dX8_left_13 : decode cX8_left 13 = .ok (.iload_n 1, 1) := by decide +kernel
theorem dX8_left_14 : decode cX8_left 14 = .ok (.iconst 0, 1) := by decide +kernel
theorem dX8_left_15 : decode cX8_left 15 = .ok (.bipush 60, 2) := by decide +kernel
theorem dX8_left_17 : decode cX8_left 17 = .ok (.invokestatic 62, 3) := by decide +kernel
theorem dX8_left_20 : decode cX8_left 20 = .ok (.ifCond .ne 6, 3) := by decide +kernel
theorem dX8_left_23 : decode cX8_left 23 = .ok (.ldc 66, 2) := by decide +kernel
theorem dX8_left_25 : decode cX8_left 25 = .ok (.ireturn, 1) := by decide +kernel
theorem dX8_left_26 : decode cX8_left 26 = .ok (.aload_n 0, 1) := by decide +kernel
theorem dX8_left_27 : decode cX8_left 27 = .ok (.getfield 25, 3) := by decide +kernel
theorem dX8_left_30 : decode cX8_left 30 = .ok (.iload_n 1, 1) := by decide +kernel
theorem dX8_left_31 : decode cX8_left 31 = .ok (.invokevirtual 199, 3) := by decide +kernel
theorem dX8_left_34 : decode cX8_left 34 = .ok (.pop, 1) := by decide +kernel
theorem dX8_left_35 : decode cX8_left 35 = .ok (.iconst 0, 1) := by decide +kernel
theorem dX8_left_36 : decode cX8_left 36 = .ok (.aload_n 0, 1) := by decide +kernel
theorem dX8_left_37 : decode cX8_left 37 = .ok (.getfield 25, 3) := by decide +kernel
theorem dX8_left_40 : decode cX8_left 40 = .ok (.getfield 205, 3) := by decide +kernel
theorem dX8_left_43 : decode cX8_left 43 = .ok (.getfield 218, 3) := by decide +kernel
theorem dX8_left_46 : decode cX8_left 46 = .ok (.invokestatic 219, 3) := by decide +kernel
theorem dX8_left_49 : decode cX8_left 49 = .ok (.ireturn, 1) := by decide +kernel
theorem dX8_next_0 : decode cX8_next 0 = .ok (.aload_n 0, 1) := by decide +kernel
theorem dX8_next_1 : decode cX8_next 1 = .ok (.iload_n 1, 1) := by decide +kernel
theorem dX8_next_2 : decode cX8_next 2 = .ok (.invokevirtual 153, 3) := by decide +kernel
theorem dX8_next_5 : decode cX8_next 5 = .ok (.ifCond .ne 6, 3) := by decide +kernel
theorem dX8_next_8 : decode cX8_next 8 = .ok (.ldc 66, 2) := by decide +kernel
theorem dX8_next_10 : decode cX8_next 10 = .ok (.ireturn, 1) := by decide +kernel
theorem dX8_next_11 : decode cX8_next 11 = .ok (.aload_n 0, 1) := by decide +kernel
theorem dX8_next_12 : decode cX8_next 12 = .ok (.getfield 25, 3) := by decide +kernel
theorem dX8_next_15 : decode cX8_next 15 = .ok (.iload_n 1, 1) := by decide +kernel
theorem dX8_next_16 : decode cX8_next 16 = .ok (.invokevirtual 224, 3) := by decide +kernel
theorem dX8_next_19 : decode cX8_next 19 = .ok (.invokestatic 150, 3) := by decide +kernel
theorem dX8_next_22 : decode cX8_next 22 = .ok (.ireturn, 1) := by decide +kernel
theorem dX8_often_0 : decode cX8_often 0 = .ok (.aload_n 0, 1) := by decide +kernel
theorem dX8_often_1 : decode cX8_often 1 = .ok (.iload_n 1, 1) := by decide +kernel
theorem dX8_often_2 : decode cX8_often 2 = .ok (.invokevirtual 153, 3) := by decide +kernel
theorem dX8_often_5 : decode cX8_often 5 = .ok (.ifCond .eq 13, 3) := by decide +kernel
theorem dX8_often_8 : decode cX8_often 8 = .ok (.iload_n 2, 1) := by decide +kernel
theorem dX8_often_9 : decode cX8_often 9 = .ok (.iconst 1, 1) := by decide +kernel
theorem dX8_often_10 : decode cX8_often 10 = .ok (.bipush 60, 2) := by decide +kernel
theorem dX8_often_12 : decode cX8_often 12 = .ok (.invokestatic 62, 3) := by decide +kernel
theorem dX8_often_15 : decode cX8_often 15 = .ok (.ifCond .ne 6, 3) := by decide +kernel
theorem dX8_often_18 : decode cX8_often 18 = .ok (.ldc 66, 2) := by decide +kernel
theorem dX8_often_20 : decode cX8_often 20 = .ok (.ireturn, 1) := by decide +kernel
theorem dX8_often_21 : decode cX8_often 21 = .ok (.aload_n 0, 1) := by decide +kernel
theorem dX8_often_22 : decode cX8_often 22 = .ok (.getfield 25, 3) := by decide +kernel
theorem dX8_often_25 : decode cX8_often 25 = .ok (.iload_n 1, 1) := by decide +kernel
theorem dX8_often_26 : decode cX8_often 26 = .ok (.iload_n 2, 1) := by decide +kernel
