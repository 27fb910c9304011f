theorem dX5_drawn_27 : decode cX5_drawn 27 = .ok (.iushr, 1) := by decide +kernel
theorem dX5_drawn_28 : decode cX5_drawn 28 = .ok (.ireturn, 1) := by decide +kernel
theorem dX5_party_0 : decode cX5_party 0 = .ok (.iload_n 1, 1) := by decide +kernel
theorem dX5_party_1 : decode cX5_party 1 = .ok (.iconst 1, 1) := by decide +kernel
theorem dX5_party_2 : decode cX5_party 2 = .ok (.bipush 20, 2) := by decide +kernel
theorem dX5_party_4 : decode cX5_party 4 = .ok (.invokestatic 70, 3) := by decide +kernel
theorem dX5_party_7 : decode cX5_party 7 = .ok (.ifCond .ne 10, 3) := by decide +kernel
theorem dX5_party_10 : decode cX5_party 10 = .ok (.aload_n 0, 1) := by decide +kernel
theorem dX5_party_11 : decode cX5_party 11 = .ok (.ldc 60, 2) := by decide +kernel
theorem dX5_party_13 : decode cX5_party 13 = .ok (.invokevirtual 66, 3) := by decide +kernel
theorem dX5_party_16 : decode cX5_party 16 = .ok (.ireturn, 1) := by decide +kernel
theorem dX5_party_17 : decode cX5_party 17 = .ok (.aload_n 0, 1) := by decide +kernel
theorem dX5_party_18 : decode cX5_party 18 = .ok (.getfield 9, 3) := by decide +kernel
theorem dX5_party_21 : decode cX5_party 21 = .ok (.iconst 0, 1) := by decide +kernel
theorem dX5_party_22 : decode cX5_party 22 = .ok (.iaload, 1) := by decide +kernel
theorem dX5_party_23 : decode cX5_party 23 = .ok (.iload_n 1, 1) := by decide +kernel
theorem dX5_party_24 : decode cX5_party 24 = .ok (.iadd, 1) := by decide +kernel
theorem dX5_party_25 : decode cX5_party 25 = .ok (.ldc 161, 2) := by decide +kernel
theorem dX5_party_27 : decode cX5_party 27 = .ok (.if_icmp .le 10, 3) := by decide +kernel
theorem dX5_party_30 : decode cX5_party 30 = .ok (.aload_n 0, 1) := by decide +kernel
theorem dX5_party_31 : decode cX5_party 31 = .ok (.ldc 165, 2) := by decide +kernel
theorem dX5_party_33 : decode cX5_party 33 = .ok (.invokevirtual 66, 3) := by decide +kernel
theorem dX5_party_36 : decode cX5_party 36 = .ok (.ireturn, 1) := by decide +kernel
theorem dX5_party_37 : decode cX5_party 37 = .ok (.iconst 0, 1) := by decide +kernel
theorem dX5_party_38 : decode cX5_party 38 = .ok (.istore_n 2, 1) := by decide +kernel
theorem dX5_party_39 : decode cX5_party 39 = .ok (.iload_n 2, 1) := by decide +kernel
theorem dX5_party_40 : decode cX5_party 40 = .ok (.iload_n 1, 1) := by decide +kernel
theorem dX5_party_41 : decode cX5_party 41 = .ok (.if_icmp .ge 75, 3) := by decide +kernel
theorem dX5_party_44 : decode cX5_party 44 = .ok (.bipush 16, 2) := by decide +kernel
theorem dX5_party_46 : decode cX5_party 46 = .ok (.aload_n 0, 1) := by decide +kernel
theorem dX5_party_47 : decode cX5_party 47 = .ok (.invokevirtual 215, 3) := by decide +kernel
theorem dX5_party_50 : decode cX5_party 50 = .ok (.bipush 21, 2) := by decide +kernel
theorem dX5_party_52 : decode cX5_party 52 = .ok (.irem, 1) := by decide +kernel
theorem dX5_party_53 : decode cX5_party 53 = .ok (.iadd, 1) := by decide +kernel
theorem dX5_party_54 : decode cX5_party 54 = .ok (.istore_n 3, 1) := by decide +kernel
theorem dX5_party_55 : decode cX5_party 55 = .ok (.aload_n 0, 1) := by decide +kernel
theorem dX5_party_56 : decode cX5_party 56 = .ok (.getfield 9, 3) := by decide +kernel
theorem dX5_party_59 : decode cX5_party 59 = .ok (.aload_n 0, 1) := by decide +kernel
theorem dX5_party_60 : decode cX5_party 60 = .ok (.invokevirtual 94, 3) := by decide +kernel
theorem dX5_party_63 : decode cX5_party 63 = .ok (.iload_n 3, 1) := by decide +kernel
theorem dX5_party_64 : decode cX5_party 64 = .ok (.iastore, 1) := by decide +kernel
theorem dX5_party_65 : decode cX5_party 65 = .ok (.aload_n 0, 1) := by decide +kernel
theorem dX5_party_66 : decode cX5_party 66 = .ok (.invokevirtual 215, 3) := by decide +kernel
theorem dX5_party_69 : decode cX5_party 69 = .ok (.bipush 8, 2) := by decide +kernel
theorem dX5_party_71 : decode cX5_party 71 = .ok (.irem, 1) := by decide +kernel
theorem dX5_party_72 : decode cX5_party 72 = .ok (.istore 4, 2) := by decide +kernel
theorem dX5_party_74 : decode cX5_party 74 = .ok (.aload_n 0, 1) := by decide +kernel
theorem dX5_party_75 : decode cX5_party 75 = .ok (.iload 4, 2) := by decide +kernel
theorem dX5_party_77 : decode cX5_party 77 = .ok (.invokevirtual 131, 3) := by decide +kernel
theorem dX5_party_80 : decode cX5_party 80 = .ok (.ifCond .eq 26, 3) := by decide +kernel
theorem dX5_party_83 : decode cX5_party 83 = .ok (.aload_n 0, 1) := by decide +kernel
theorem dX5_party_84 : decode cX5_party 84 = .ok (.getfield 9, 3) := by decide +kernel
theorem dX5_party_87 : decode cX5_party 87 = .ok (.iload 4, 2) := by decide +kernel
theorem dX5_party_89 : decode cX5_party 89 = .ok (.iconst 3, 1) := by decide +kernel
theorem dX5_party_90 : decode cX5_party 90 = .ok (.invokestatic 106, 3) := by decide +kernel
theorem dX5_party_93 : decode cX5_party 93 = .ok (.aload_n 0, 1) := by decide +kernel
theorem dX5_party_94 : decode cX5_party 94 = .ok (.iload 4, 2) := by decide +kernel
theorem dX5_party_96 : decode cX5_party 96 = .ok (.iconst 3, 1) := by decide +kernel
theorem dX5_party_97 : decode cX5_party 97 = .ok (.invokevirtual 116, 3) := by decide +kernel
theorem dX5_party_100 : decode cX5_party 100 = .ok (.iconst 1, 1) := by decide +kernel
theorem dX5_party_101 : decode cX5_party 101 = .ok (.iadd, 1) := by decide +kernel
theorem dX5_party_102 : decode cX5_party 102 = .ok (.bipush 16, 2) := by decide +kernel
theorem dX5_party_104 : decode cX5_party 104 = .ok (.irem, 1) := by decide +kernel
theorem dX5_party_105 : decode cX5_party 105 = .ok (.iastore, 1) := by decide +kernel
theorem dX5_party_106 : decode cX5_party 106 = .ok (.aload_n 0, 1) := by decide +kernel
theorem dX5_party_107 : decode cX5_party 107 = .ok (.invokevirtual 162, 3) := by decide +kernel
theorem dX5_party_110 : decode cX5_party 110 = .ok (.iinc 2 1, 3) := by decide +kernel
theorem dX5_party_113 : decode cX5_party 113 = .ok (.goto (-74), 3) := by decide +kernel
theorem dX5_party_116 : decode cX5_party 116 = .ok (.aload_n 0, 1) := by decide +kernel
theorem dX5_party_117 : decode cX5_party 117 = .ok (.getfield 9, 3) := by decide +kernel
theorem dX5_party_120 : decode cX5_party 120 = .ok (.iconst 4, 1) := by decide +kernel
theorem dX5_party_121 : decode cX5_party 121 = .ok (.iaload, 1) := by decide +kernel
theorem dX5_party_122 : decode cX5_party 122 = .ok (.ireturn, 1) := by decide +kernel
theorem dX5_odds_0 : decode cX5_odds 0 = .ok (.aload_n 0, 1) := by decide +kernel
theorem dX5_odds_1 : decode cX5_odds 1 = .ok (.iload_n 1, 1) := by decide +kernel
theorem dX5_odds_2 : decode cX5_odds 2 = .ok (.invokevirtual 131, 3) := by decide +kernel
theorem dX5_odds_5 : decode cX5_odds 5 = .ok (.ifCond .eq 22, 3) := by decide +kernel
theorem dX5_odds_8 : decode cX5_odds 8 = .ok (.iload_n 2, 1) := by decide +kernel
theorem dX5_odds_9 : decode cX5_odds 9 = .ok (.iconst 0, 1) := by decide +kernel
theorem dX5_odds_10 : decode cX5_odds 10 = .ok (.bipush 13, 2) := by decide +kernel
theorem dX5_odds_12 : decode cX5_odds 12 = .ok (.invokestatic 70, 3) := by decide +kernel
theorem dX5_odds_15 : decode cX5_odds 15 = .ok (.ifCond .eq 12, 3) := by decide +kernel
theorem dX5_odds_18 : decode cX5_odds 18 = .ok (.iload_n 3, 1) := by decide +kernel
theorem dX5_odds_19 : decode cX5_odds 19 = .ok (.iconst 0, 1) := by decide +kernel
theorem dX5_odds_20 : decode cX5_odds 20 = .ok (.iconst 1, 1) := by decide +kernel
theorem dX5_odds_21 : decode cX5_odds 21 = .ok (.invokestatic 70, 3) := by decide +kernel
theorem dX5_odds_24 : decode cX5_odds 24 = .ok (.ifCond .ne 11, 3) := by decide +kernel
theorem dX5_odds_27 : decode cX5_odds 27 = .ok (.aload_n 0, 1) := by decide +kernel
theorem dX5_odds_28 : decode cX5_odds 28 = .ok (.ldc 60, 2) := by decide +kernel
theorem dX5_odds_30 : decode cX5_odds 30 = .ok (.invokevirtual 66, 3) := by decide +kernel
theorem dX5_odds_33 : decode cX5_odds 33 = .ok (.i2l, 1) := by decide +kernel
theorem dX5_odds_34 : decode cX5_odds 34 = .ok (.lreturn, 1) := by decide +kernel
theorem dX5_odds_35 : decode cX5_odds 35 = .ok (.bipush 21, 2) := by decide +kernel
theorem dX5_odds_37 : decode cX5_odds 37 = .ok (.istore 4, 2) := by decide +kernel
theorem dX5_odds_39 : decode cX5_odds 39 = .ok (.iconst 0, 1) := by decide +kernel
theorem dX5_odds_40 : decode cX5_odds 40 = .ok (.istore 5, 2) := by decide +kernel
theorem dX5_odds_42 : decode cX5_odds 42 = .ok (.bipush 16, 2) := by decide +kernel
theorem dX5_odds_44 : decode cX5_odds 44 = .ok (.istore 6, 2) := by decide +kernel
theorem dX5_odds_46 : decode cX5_odds 46 = .ok (.iload 6, 2) := by decide +kernel
theorem dX5_odds_48 : decode cX5_odds 48 = .ok (.bipush 36, 2) := by decide +kernel
theorem dX5_odds_50 : decode cX5_odds 50 = .ok (.if_icmp .gt 30, 3) := by decide +kernel
theorem dX5_odds_53 : decode cX5_odds 53 = .ok (.iload 5, 2) := by decide +kernel
theorem dX5_odds_55 : decode cX5_odds 55 = .ok (.aload_n 0, 1) := by decide +kernel
theorem dX5_odds_56 : decode cX5_odds 56 = .ok (.iload_n 1, 1) := by decide +kernel
theorem dX5_odds_57 : decode cX5_odds 57 = .ok (.iload 6, 2) := by decide +kernel
theorem dX5_odds_59 : decode cX5_odds 59 = .ok (.invokevirtual 141, 3) := by decide +kernel
theorem dX5_odds_62 : decode cX5_odds 62 = .ok (.aload_n 0, 1) := by decide +kernel
theorem dX5_odds_63 : decode cX5_odds 63 = .ok (.iload_n 1, 1) := by decide +kernel
theorem dX5_odds_64 : decode cX5_odds 64 = .ok (.iconst 3, 1) := by decide +kernel
theorem dX5_odds_65 : decode cX5_odds 65 = .ok (.invokevirtual 116, 3) := by decide +kernel
theorem dX5_odds_68 : decode cX5_odds 68 = .ok (.ishr, 1) := by decide +kernel
theorem dX5_odds_69 : decode cX5_odds 69 = .ok (.iconst 1, 1) := by decide +kernel
theorem dX5_odds_70 : decode cX5_odds 70 = .ok (.iand, 1) := by decide +kernel
theorem dX5_odds_71 : decode cX5_odds 71 = .ok (.iadd, 1) := by decide +kernel
theorem dX5_odds_72 : decode cX5_odds 72 = .ok (.istore 5, 2) := by decide +kernel
theorem dX5_odds_74 : decode cX5_odds 74 = .ok (.iinc 6 1, 3) := by decide +kernel
theorem dX5_odds_77 : decode cX5_odds 77 = .ok (.goto (-31), 3) := by decide +kernel
theorem dX5_odds_80 : decode cX5_odds 80 = .ok (.iload 4, 2) := by decide +kernel
theorem dX5_odds_82 : decode cX5_odds 82 = .ok (.istore 6, 2) := by decide +kernel
theorem dX5_odds_84 : decode cX5_odds 84 = .ok (.iload 5, 2) := by decide +kernel
theorem dX5_odds_86 : decode cX5_odds 86 = .ok (.istore 7, 2) := by decide +kernel
theorem dX5_odds_88 : decode cX5_odds 88 = .ok (.iload 7, 2) := by decide +kernel
theorem dX5_odds_90 : decode cX5_odds 90 = .ok (.ifCond .eq 21, 3) := by decide +kernel
theorem dX5_odds_93 : decode cX5_odds 93 = .ok (.iload 6, 2) := by decide +kernel
theorem dX5_odds_95 : decode cX5_odds 95 = .ok (.iload 7, 2) := by decide +kernel
theorem dX5_odds_97 : decode cX5_odds 97 = .ok (.irem, 1) := by decide +kernel
theorem dX5_odds_98 : decode cX5_odds 98 = .ok (.istore 8, 2) := by decide +kernel
theorem dX5_odds_100 : decode cX5_odds 100 = .ok (.iload 7, 2) := by decide +kernel
theorem dX5_odds_102 : decode cX5_odds 102 = .ok (.istore 6, 2) := by decide +kernel
theorem dX5_odds_104 : decode cX5_odds 104 = .ok (.iload 8, 2) := by decide +kernel
theorem dX5_odds_106 : decode cX5_odds 106 = .ok (.istore 7, 2) := by decide +kernel
theorem dX5_odds_108 : decode cX5_odds 108 = .ok (.goto (-20), 3) := by decide +kernel
theorem dX5_odds_111 : decode cX5_odds 111 = .ok (.lconst 1, 1) := by decide +kernel
theorem dX5_odds_112 : decode cX5_odds 112 = .ok (.lstore 8, 2) := by decide +kernel
theorem dX5_odds_114 : decode cX5_odds 114 = .ok (.iconst 0, 1) := by decide +kernel
theorem dX5_odds_115 : decode cX5_odds 115 = .ok (.istore 10, 2) := by decide +kernel
theorem dX5_odds_117 : decode cX5_odds 117 = .ok (.iload 10, 2) := by decide +kernel
theorem dX5_odds_119 : decode cX5_odds 119 = .ok (.iload_n 2, 1) := by decide +kernel
theorem dX5_odds_120 : decode cX5_odds 120 = .ok (.if_icmp .ge 29, 3) := by decide +kernel
theorem dX5_odds_123 : decode cX5_odds 123 = .ok (.lload 8, 2) := by decide +kernel
theorem dX5_odds_125 : decode cX5_odds 125 = .ok (.iload_n 3, 1) := by decide +kernel
theorem dX5_odds_126 : decode cX5_odds 126 = .ok (.ifCond .ne 8, 3) := by decide +kernel
theorem dX5_odds_129 : decode cX5_odds 129 = .ok (.iload 5, 2) := by decide +kernel
theorem dX5_odds_131 : decode cX5_odds 131 = .ok (.goto 5, 3) := by decide +kernel
theorem dX5_odds_134 : decode cX5_odds 134 = .ok (.iload 4, 2) := by decide +kernel
theorem dX5_odds_136 : decode cX5_odds 136 = .ok (.iload 6, 2) := by decide +kernel
theorem dX5_odds_138 : decode cX5_odds 138 = .ok (.idiv, 1) := by decide +kernel
theorem dX5_odds_139 : decode cX5_odds 139 = .ok (.i2l, 1) := by decide +kernel
theorem dX5_odds_140 : decode cX5_odds 140 = .ok (.lmul, 1) := by decide +kernel
theorem dX5_odds_141 : decode cX5_odds 141 = .ok (.lstore 8, 2) := by decide +kernel
theorem dX5_odds_143 : decode cX5_odds 143 = .ok (.iinc 10 1, 3) := by decide +kernel
theorem dX5_odds_146 : decode cX5_odds 146 = .ok (.goto (-29), 3) := by decide +kernel
theorem dX5_odds_149 : decode cX5_odds 149 = .ok (.lload 8, 2) := by decide +kernel
theorem dX5_odds_151 : decode cX5_odds 151 = .ok (.lreturn, 1) := by decide +kernel
theorem dX5_seed_0 : decode cX5_seed 0 = .ok (.aload_n 0, 1) := by decide +kernel
theorem dX5_seed_1 : decode cX5_seed 1 = .ok (.iconst 2, 1) := by decide +kernel
theorem dX5_seed_2 : decode cX5_seed 2 = .ok (.iload_n 1, 1) := by decide +kernel
theorem dX5_seed_3 : decode cX5_seed 3 = .ok (.invokevirtual 78, 3) := by decide +kernel
theorem dX5_seed_6 : decode cX5_seed 6 = .ok (.ireturn, 1) := by decide +kernel
theorem dX5_feed_0 : decode cX5_feed 0 = .ok (.iload_n 2, 1) := by decide +kernel
theorem dX5_feed_1 : decode cX5_feed 1 = .ok (.iconst 1, 1) := by decide +kernel
theorem dX5_feed_2 : decode cX5_feed 2 = .ok (.iconst 4, 1) := by decide +kernel
theorem dX5_feed_3 : decode cX5_feed 3 = .ok (.invokestatic 70, 3) := by decide +kernel
theorem dX5_feed_6 : decode cX5_feed 6 = .ok (.ifCond .ne 10, 3) := by decide +kernel
theorem dX5_feed_9 : decode cX5_feed 9 = .ok (.aload_n 0, 1) := by decide +kernel
theorem dX5_feed_10 : decode cX5_feed 10 = .ok (.ldc 60, 2) := by decide +kernel
theorem dX5_feed_12 : decode cX5_feed 12 = .ok (.invokevirtual 66, 3) := by decide +kernel
theorem dX5_feed_15 : decode cX5_feed 15 = .ok (.ireturn, 1) := by decide +kernel
theorem dX5_feed_16 : decode cX5_feed 16 = .ok (.aload_n 0, 1) := by decide +kernel
theorem dX5_feed_17 : decode cX5_feed 17 = .ok (.getfield 218, 3) := by decide +kernel
theorem dX5_feed_20 : decode cX5_feed 20 = .ok (.iload_n 2, 1) := by decide +kernel
theorem dX5_feed_21 : decode cX5_feed 21 = .ok (.iadd, 1) := by decide +kernel
theorem dX5_feed_22 : decode cX5_feed 22 = .ok (.bipush 120, 2) := by decide +kernel
theorem dX5_feed_24 : decode cX5_feed 24 = .ok (.if_icmp .le 10, 3) := by decide +kernel
theorem dX5_feed_27 : decode cX5_feed 27 = .ok (.aload_n 0, 1) := by decide +kernel
theorem dX5_feed_28 : decode cX5_feed 28 = .ok (.ldc 112, 2) := by decide +kernel
theorem dX5_feed_30 : decode cX5_feed 30 = .ok (.invokevirtual 66, 3) := by decide +kernel
theorem dX5_feed_33 : decode cX5_feed 33 = .ok (.ireturn, 1) := by decide +kernel
theorem dX5_feed_34 : decode cX5_feed 34 = .ok (.iload_n 2, 1) := by decide +kernel
theorem dX5_feed_35 : decode cX5_feed 35 = .ok (.iconst 1, 1) := by decide +kernel
theorem dX5_feed_36 : decode cX5_feed 36 = .ok (.isub, 1) := by decide +kernel
theorem dX5_feed_37 : decode cX5_feed 37 = .ok (.istore_n 3, 1) := by decide +kernel
theorem dX5_feed_38 : decode cX5_feed 38 = .ok (.iload_n 3, 1) := by decide +kernel
theorem dX5_feed_39 : decode cX5_feed 39 = .ok (.ifCond .lt 38, 3) := by decide +kernel
theorem dX5_feed_42 : decode cX5_feed 42 = .ok (.aload_n 0, 1) := by decide +kernel
theorem dX5_feed_43 : decode cX5_feed 43 = .ok (.getfield 22, 3) := by decide +kernel
theorem dX5_feed_46 : decode cX5_feed 46 = .ok (.aload_n 0, 1) := by decide +kernel
theorem dX5_feed_47 : decode cX5_feed 47 = .ok (.getfield 218, 3) := by decide +kernel
theorem dX5_feed_50 : decode cX5_feed 50 = .ok (.iload_n 1, 1) := by decide +kernel
theorem dX5_feed_51 : decode cX5_feed 51 = .ok (.bipush 8, 2) := by decide +kernel
theorem dX5_feed_53 : decode cX5_feed 53 = .ok (.iload_n 3, 1) := by decide +kernel
theorem dX5_feed_54 : decode cX5_feed 54 = .ok (.imul, 1) := by decide +kernel
theorem dX5_feed_55 : decode cX5_feed 55 = .ok (.ishr, 1) := by decide +kernel
theorem dX5_feed_56 : decode cX5_feed 56 = .ok (.sipush 255, 3) := by decide +kernel
theorem dX5_feed_59 : decode cX5_feed 59 = .ok (.iand, 1) := by decide +kernel
theorem dX5_feed_60 : decode cX5_feed 60 = .ok (.iastore, 1) := by decide +kernel
theorem dX5_feed_61 : decode cX5_feed 61 = .ok (.aload_n 0, 1) := by decide +kernel
theorem dX5_feed_62 : decode cX5_feed 62 = .ok (.dup, 1) := by decide +kernel
theorem dX5_feed_63 : decode cX5_feed 63 = .ok (.getfield 218, 3) := by decide +kernel
theorem dX5_feed_66 : decode cX5_feed 66 = .ok (.iconst 1, 1) := by decide +kernel
theorem dX5_feed_67 : decode cX5_feed 67 = .ok (.iadd, 1) := by decide +kernel
theorem dX5_feed_68 : decode cX5_feed 68 = .ok (.putfield 218, 3) := by decide +kernel
theorem dX5_feed_71 : decode cX5_feed 71 = .ok (.iinc 3 (-1), 3) := by decide +kernel
theorem dX5_feed_74 : decode cX5_feed 74 = .ok (.goto (-36), 3) := by decide +kernel
theorem dX5_feed_77 : decode cX5_feed 77 = .ok (.aload_n 0, 1) := by decide +kernel
theorem dX5_feed_78 : decode cX5_feed 78 = .ok (.getfield 218, 3) := by decide +kernel
theorem dX5_feed_81 : decode cX5_feed 81 = .ok (.ireturn, 1) := by decide +kernel
theorem dX5_wipe_0 : decode cX5_wipe 0 = .ok (.aload_n 0, 1) := by decide +kernel
theorem dX5_wipe_1 : decode cX5_wipe 1 = .ok (.getfield 218, 3) := by decide +kernel
theorem dX5_wipe_4 : decode cX5_wipe 4 = .ok (.istore_n 1, 1) := by decide +kernel
theorem dX5_wipe_5 : decode cX5_wipe 5 = .ok (.aload_n 0, 1) := by decide +kernel
theorem dX5_wipe_6 : decode cX5_wipe 6 = .ok (.iconst 0, 1) := by decide +kernel
theorem dX5_wipe_7 : decode cX5_wipe 7 = .ok (.putfield 218, 3) := by decide +kernel
theorem dX5_wipe_10 : decode cX5_wipe 10 = .ok (.iload_n 1, 1) := by decide +kernel
theorem dX5_wipe_11 : decode cX5_wipe 11 = .ok (.ireturn, 1) := by decide +kernel
theorem dX5_byteAt_0 : decode cX5_byteAt 0 = .ok (.iload_n 1, 1) := by decide +kernel
theorem dX5_byteAt_1 : decode cX5_byteAt 1 = .ok (.aload_n 0, 1) := by decide +kernel
theorem dX5_byteAt_2 : decode cX5_byteAt 2 = .ok (.getfield 218, 3) := by decide +kernel
theorem dX5_byteAt_5 : decode cX5_byteAt 5 = .ok (.if_icmp .ge 12, 3) := by decide +kernel
theorem dX5_byteAt_8 : decode cX5_byteAt 8 = .ok (.aload_n 0, 1) := by decide +kernel
theorem dX5_byteAt_9 : decode cX5_byteAt 9 = .ok (.getfield 22, 3) := by decide +kernel
theorem dX5_byteAt_12 : decode cX5_byteAt 12 = .ok (.iload_n 1, 1) := by decide +kernel
theorem dX5_byteAt_13 : decode cX5_byteAt 13 = .ok (.iaload, 1) := by decide +kernel
theorem dX5_byteAt_14 : decode cX5_byteAt 14 = .ok (.goto 4, 3) := by decide +kernel
theorem dX5_byteAt_17 : decode cX5_byteAt 17 = .ok (.iconst (-1), 1) := by decide +kernel
theorem dX5_byteAt_18 : decode cX5_byteAt 18 = .ok (.ireturn, 1) := by decide +kernel
theorem dX5_token_0 : decode cX5_token 0 = .ok (.aload_n 0, 1) := by decide +kernel
theorem dX5_token_1 : decode cX5_token 1 = .ok (.aload_n 0, 1) := by decide +kernel
theorem dX5_token_2 : decode cX5_token 2 = .ok (.getfield 222, 3) := by decide +kernel
theorem dX5_token_5 : decode cX5_token 5 = .ok (.putfield 225, 3) := by decide +kernel
theorem dX5_token_8 : decode cX5_token 8 = .ok (.aload_n 0, 1) := by decide +kernel
theorem dX5_token_9 : decode cX5_token 9 = .ok (.aload_n 0, 1) := by decide +kernel
theorem dX5_token_10 : decode cX5_token 10 = .ok (.getfield 225, 3) := by decide +kernel
theorem dX5_token_13 : decode cX5_token 13 = .ok (.invokevirtual 228, 3) := by decide +kernel
theorem dX5_token_16 : decode cX5_token 16 = .ok (.bipush 32, 2) := by decide +kernel
theorem dX5_token_18 : decode cX5_token 18 = .ok (.if_icmp .ne 16, 3) := by decide +kernel
theorem dX5_token_21 : decode cX5_token 21 = .ok (.aload_n 0, 1) := by decide +kernel
theorem dX5_token_22 : decode cX5_token 22 = .ok (.dup, 1) := by decide +kernel
theorem dX5_token_23 : decode cX5_token 23 = .ok (.getfield 225, 3) := by decide +kernel
theorem dX5_token_26 : decode cX5_token 26 = .ok (.iconst 1, 1) := by decide +kernel
theorem dX5_token_27 : decode cX5_token 27 = .ok (.iadd, 1) := by decide +kernel
theorem dX5_token_28 : decode cX5_token 28 = .ok (.putfield 225, 3) := by decide +kernel
theorem dX5_token_31 : decode cX5_token 31 = .ok (.goto (-23), 3) := by decide +kernel
theorem dX5_token_34 : decode cX5_token 34 = .ok (.aload_n 0, 1) := by decide +kernel
theorem dX5_token_35 : decode cX5_token 35 = .ok (.aload_n 0, 1) := by decide +kernel
theorem dX5_token_36 : decode cX5_token 36 = .ok (.getfield 225, 3) := by decide +kernel
theorem dX5_token_39 : decode cX5_token 39 = .ok (.invokevirtual 228, 3) := by decide +kernel
theorem dX5_token_42 : decode cX5_token 42 = .ok (.istore_n 1, 1) := by decide +kernel
theorem dX5_token_43 : decode cX5_token 43 = .ok (.aload_n 0, 1) := by decide +kernel
theorem dX5_token_44 : decode cX5_token 44 = .ok (.aload_n 0, 1) := by decide +kernel
theorem dX5_token_45 : decode cX5_token 45 = .ok (.getfield 225, 3) := by decide +kernel
theorem dX5_token_48 : decode cX5_token 48 = .ok (.putfield 222, 3) := by decide +kernel
theorem dX5_token_51 : decode cX5_token 51 = .ok (.aload_n 0, 1) := by decide +kernel
theorem dX5_token_52 : decode cX5_token 52 = .ok (.iconst 0, 1) := by decide +kernel
theorem dX5_token_53 : decode cX5_token 53 = .ok (.putfield 231, 3) := by decide +kernel
theorem dX5_token_56 : decode cX5_token 56 = .ok (.iload_n 1, 1) := by decide +kernel
theorem dX5_token_57 : decode cX5_token 57 = .ok (.ifCond .ge 11, 3) := by decide +kernel
theorem dX5_token_60 : decode cX5_token 60 = .ok (.aload_n 0, 1) := by decide +kernel
theorem dX5_token_61 : decode cX5_token 61 = .ok (.iconst 0, 1) := by decide +kernel
theorem dX5_token_62 : decode cX5_token 62 = .ok (.putfield 234, 3) := by decide +kernel
theorem dX5_token_65 : decode cX5_token 65 = .ok (.goto 141, 3) := by decide +kernel
theorem dX5_token_68 : decode cX5_token 68 = .ok (.iload_n 1, 1) := by decide +kernel
theorem dX5_token_69 : decode cX5_token 69 = .ok (.bipush 97, 2) := by decide +kernel
theorem dX5_token_71 : decode cX5_token 71 = .ok (.bipush 122, 2) := by decide +kernel
theorem dX5_token_73 : decode cX5_token 73 = .ok (.invokestatic 70, 3) := by decide +kernel
theorem dX5_token_76 : decode cX5_token 76 = .ok (.ifCond .eq 39, 3) := by decide +kernel
theorem dX5_token_79 : decode cX5_token 79 = .ok (.aload_n 0, 1) := by decide +kernel
theorem dX5_token_80 : decode cX5_token 80 = .ok (.iconst 1, 1) := by decide +kernel
theorem dX5_token_81 : decode cX5_token 81 = .ok (.putfield 234, 3) := by decide +kernel
theorem dX5_token_84 : decode cX5_token 84 = .ok (.aload_n 0, 1) := by decide +kernel
theorem dX5_token_85 : decode cX5_token 85 = .ok (.aload_n 0, 1) := by decide +kernel
theorem dX5_token_86 : decode cX5_token 86 = .ok (.getfield 222, 3) := by decide +kernel
theorem dX5_token_89 : decode cX5_token 89 = .ok (.invokevirtual 228, 3) := by decide +kernel
theorem dX5_token_92 : decode cX5_token 92 = .ok (.bipush 97, 2) := by decide +kernel
theorem dX5_token_94 : decode cX5_token 94 = .ok (.bipush 122, 2) := by decide +kernel
theorem dX5_token_96 : decode cX5_token 96 = .ok (.invokestatic 70, 3) := by decide +kernel
theorem dX5_token_99 : decode cX5_token 99 = .ok (.ifCond .eq 107, 3) := by decide +kernel
theorem dX5_token_102 : decode cX5_token 102 = .ok (.aload_n 0, 1) := by decide +kernel
theorem dX5_token_103 : decode cX5_token 103 = .ok (.dup, 1) := by decide +kernel
theorem dX5_token_104 : decode cX5_token 104 = .ok (.getfield 222, 3) := by decide +kernel
theorem dX5_token_107 : decode cX5_token 107 = .ok (.iconst 1, 1) := by decide +kernel
theorem dX5_token_108 : decode cX5_token 108 = .ok (.iadd, 1) := by decide +kernel
theorem dX5_token_109 : decode cX5_token 109 = .ok (.putfield 222, 3) := by decide +kernel
theorem dX5_token_112 : decode cX5_token 112 = .ok (.goto (-28), 3) := by decide +kernel
theorem dX5_token_115 : decode cX5_token 115 = .ok (.iload_n 1, 1) := by decide +kernel
theorem dX5_token_116 : decode cX5_token 116 = .ok (.bipush 48, 2) := by decide +kernel
theorem dX5_token_118 : decode cX5_token 118 = .ok (.bipush 57, 2) := by decide +kernel
theorem dX5_token_120 : decode cX5_token 120 = .ok (.invokestatic 70, 3) := by decide +kernel
theorem dX5_token_123 : decode cX5_token 123 = .ok (.ifCond .eq 68, 3) := by decide +kernel
theorem dX5_token_126 : decode cX5_token 126 = .ok (.aload_n 0, 1) := by decide +kernel
theorem dX5_token_127 : decode cX5_token 127 = .ok (.iconst 2, 1) := by decide +kernel
theorem dX5_token_128 : decode cX5_token 128 = .ok (.putfield 234, 3) := by decide +kernel
theorem dX5_token_131 : decode cX5_token 131 = .ok (.aload_n 0, 1) := by decide +kernel
theorem dX5_token_132 : decode cX5_token 132 = .ok (.aload_n 0, 1) := by decide +kernel
theorem dX5_token_133 : decode cX5_token 133 = .ok (.getfield 222, 3) := by decide +kernel
theorem dX5_token_136 : decode cX5_token 136 = .ok (.invokevirtual 228, 3) := by decide +kernel
theorem dX5_token_139 : decode cX5_token 139 = .ok (.bipush 48, 2) := by decide +kernel
theorem dX5_token_141 : decode cX5_token 141 = .ok (.bipush 57, 2) := by decide +kernel
theorem dX5_token_143 : decode cX5_token 143 = .ok (.invokestatic 70, 3) := by decide +kernel
theorem dX5_token_146 : decode cX5_token 146 = .ok (.ifCond .eq 60, 3) := by decide +kernel
theorem dX5_token_149 : decode cX5_token 149 = .ok (.aload_n 0, 1) := by decide +kernel
theorem dX5_token_150 : decode cX5_token 150 = .ok (.sipush 10000, 3) := by decide +kernel
theorem dX5_token_153 : decode cX5_token 153 = .ok (.bipush 10, 2) := by decide +kernel
theorem dX5_token_155 : decode cX5_token 155 = .ok (.aload_n 0, 1) := by decide +kernel
theorem dX5_token_156 : decode cX5_token 156 = .ok (.getfield 231, 3) := by decide +kernel
theorem dX5_token_159 : decode cX5_token 159 = .ok (.imul, 1) := by decide +kernel
theorem dX5_token_160 : decode cX5_token 160 = .ok (.aload_n 0, 1) := by decide +kernel
theorem dX5_token_161 : decode cX5_token 161 = .ok (.aload_n 0, 1) := by decide +kernel
theorem dX5_token_162 : decode cX5_token 162 = .ok (.getfield 222, 3) := by decide +kernel
theorem dX5_token_165 : decode cX5_token 165 = .ok (.invokevirtual 228, 3) := by decide +kernel
theorem dX5_token_168 : decode cX5_token 168 = .ok (.iadd, 1) := by decide +kernel
theorem dX5_token_169 : decode cX5_token 169 = .ok (.bipush 48, 2) := by decide +kernel
theorem dX5_token_171 : decode cX5_token 171 = .ok (.isub, 1) := by decide +kernel
theorem dX5_token_172 : decode cX5_token 172 = .ok (.invokestatic 144, 3) := by decide +kernel
theorem dX5_token_175 : decode cX5_token 175 = .ok (.putfield 231, 3) := by decide +kernel
theorem dX5_token_178 : decode cX5_token 178 = .ok (.aload_n 0, 1) := by decide +kernel
theorem dX5_token_179 : decode cX5_token 179 = .ok (.dup, 1) := by decide +kernel
theorem dX5_token_180 : decode cX5_token 180 = .ok (.getfield 222, 3) := by decide +kernel
theorem dX5_token_183 : decode cX5_token 183 = .ok (.iconst 1, 1) := by decide +kernel
theorem dX5_token_184 : decode cX5_token 184 = .ok (.iadd, 1) := by decide +kernel
theorem dX5_token_185 : decode cX5_token 185 = .ok (.putfield 222, 3) := by decide +kernel
theorem dX5_token_188 : decode cX5_token 188 = .ok (.goto (-57), 3) := by decide +kernel
theorem dX5_token_191 : decode cX5_token 191 = .ok (.aload_n 0, 1) := by decide +kernel
theorem dX5_token_192 : decode cX5_token 192 = .ok (.iconst 3, 1) := by decide +kernel
theorem dX5_token_193 : decode cX5_token 193 = .ok (.putfield 234, 3) := by decide +kernel
theorem dX5_token_196 : decode cX5_token 196 = .ok (.aload_n 0, 1) := by decide +kernel
theorem dX5_token_197 : decode cX5_token 197 = .ok (.dup, 1) := by decide +kernel
theorem dX5_token_198 : decode cX5_token 198 = .ok (.getfield 222, 3) := by decide +kernel
theorem dX5_token_201 : decode cX5_token 201 = .ok (.iconst 1, 1) := by decide +kernel
theorem dX5_token_202 : decode cX5_token 202 = .ok (.iadd, 1) := by decide +kernel
theorem dX5_token_203 : decode cX5_token 203 = .ok (.putfield 222, 3) := by decide +kernel
theorem dX5_token_206 : decode cX5_token 206 = .ok (.return_, 1) := by decide +kernel
theorem dX5_isWord_0 : decode cX5_isWord 0 = .ok (.aload_n 0, 1) := by decide +kernel
theorem dX5_isWord_1 : decode cX5_isWord 1 = .ok (.getfield 234, 3) := by decide +kernel
theorem dX5_isWord_4 : decode cX5_isWord 4 = .ok (.iconst 1, 1) := by decide +kernel
theorem dX5_isWord_5 : decode cX5_isWord 5 = .ok (.if_icmp .ne 23, 3) := by decide +kernel
theorem dX5_isWord_8 : decode cX5_isWord 8 = .ok (.aload_n 0, 1) := by decide +kernel
theorem dX5_isWord_9 : decode cX5_isWord 9 = .ok (.getfield 222, 3) := by decide +kernel
theorem dX5_isWord_12 : decode cX5_isWord 12 = .ok (.aload_n 0, 1) := by decide +kernel
theorem dX5_isWord_13 : decode cX5_isWord 13 = .ok (.getfield 225, 3) := by decide +kernel
theorem dX5_isWord_16 : decode cX5_isWord 16 = .ok (.isub, 1) := by decide +kernel
theorem dX5_isWord_17 : decode cX5_isWord 17 = .ok (.aload_n 1, 1) := by decide +kernel
theorem dX5_isWord_18 : decode cX5_isWord 18 = .ok (.invokevirtual 237, 3) := by decide +kernel
theorem dX5_isWord_21 : decode cX5_isWord 21 = .ok (.if_icmp .ne 7, 3) := by decide +kernel
theorem dX5_isWord_24 : decode cX5_isWord 24 = .ok (.iconst 1, 1) := by decide +kernel
theorem dX5_isWord_25 : decode cX5_isWord 25 = .ok (.goto 4, 3) := by decide +kernel
theorem dX5_isWord_28 : decode cX5_isWord 28 = .ok (.iconst 0, 1) := by decide +kernel
theorem dX5_isWord_29 : decode cX5_isWord 29 = .ok (.istore_n 2, 1) := by decide +kernel
theorem dX5_isWord_30 : decode cX5_isWord 30 = .ok (.iconst 0, 1) := by decide +kernel
theorem dX5_isWord_31 : decode cX5_isWord 31 = .ok (.istore_n 3, 1) := by decide +kernel
theorem dX5_isWord_32 : decode cX5_isWord 32 = .ok (.iload_n 3, 1) := by decide +kernel
theorem dX5_isWord_33 : decode cX5_isWord 33 = .ok (.aload_n 1, 1) := by decide +kernel
theorem dX5_isWord_34 : decode cX5_isWord 34 = .ok (.invokevirtual 237, 3) := by decide +kernel
theorem dX5_isWord_37 : decode cX5_isWord 37 = .ok (.if_icmp .ge 38, 3) := by decide +kernel
theorem dX5_isWord_40 : decode cX5_isWord 40 = .ok (.iload_n 2, 1) := by decide +kernel
theorem dX5_isWord_41 : decode cX5_isWord 41 = .ok (.ifCond .eq 34, 3) := by decide +kernel
theorem dX5_isWord_44 : decode cX5_isWord 44 = .ok (.aload_n 0, 1) := by decide +kernel
theorem dX5_isWord_45 : decode cX5_isWord 45 = .ok (.getfield 22, 3) := by decide +kernel
theorem dX5_isWord_48 : decode cX5_isWord 48 = .ok (.aload_n 0, 1) := by decide +kernel
theorem dX5_isWord_49 : decode cX5_isWord 49 = .ok (.getfield 225, 3) := by decide +kernel
theorem dX5_isWord_52 : decode cX5_isWord 52 = .ok (.iload_n 3, 1) := by decide +kernel
theorem dX5_isWord_53 : decode cX5_isWord 53 = .ok (.iadd, 1) := by decide +kernel
theorem dX5_isWord_54 : decode cX5_isWord 54 = .ok (.iaload, 1) := by decide +kernel
theorem dX5_isWord_55 : decode cX5_isWord 55 = .ok (.aload_n 1, 1) := by decide +kernel
theorem dX5_isWord_56 : decode cX5_isWord 56 = .ok (.iload_n 3, 1) := by decide +kernel
theorem dX5_isWord_57 : decode cX5_isWord 57 = .ok (.invokevirtual 240, 3) := by decide +kernel
theorem dX5_isWord_60 : decode cX5_isWord 60 = .ok (.if_icmp .ne 7, 3) := by decide +kernel
theorem dX5_isWord_63 : decode cX5_isWord 63 = .ok (.iconst 1, 1) := by decide +kernel
theorem dX5_isWord_64 : decode cX5_isWord 64 = .ok (.goto 4, 3) := by decide +kernel
theorem dX5_isWord_67 : decode cX5_isWord 67 = .ok (.iconst 0, 1) := by decide +kernel
theorem dX5_isWord_68 : decode cX5_isWord 68 = .ok (.istore_n 2, 1) := by decide +kernel
theorem dX5_isWord_69 : decode cX5_isWord 69 = .ok (.iinc 3 1, 3) := by decide +kernel
theorem dX5_isWord_72 : decode cX5_isWord 72 = .ok (.goto (-40), 3) := by decide +kernel
theorem dX5_isWord_75 : decode cX5_isWord 75 = .ok (.iload_n 2, 1) := by decide +kernel
theorem dX5_isWord_76 : decode cX5_isWord 76 = .ok (.ireturn, 1) := by decide +kernel
theorem dX5_must_0 : decode cX5_must 0 = .ok (.aload_n 0, 1) := by decide +kernel
theorem dX5_must_1 : decode cX5_must 1 = .ok (.aload_n 0, 1) := by decide +kernel
theorem dX5_must_2 : decode cX5_must 2 = .ok (.getfield 244, 3) := by decide +kernel
theorem dX5_must_5 : decode cX5_must 5 = .ok (.ifCond .ne 7, 3) := by decide +kernel
theorem dX5_must_8 : decode cX5_must 8 = .ok (.iload_n 1, 1) := by decide +kernel
theorem dX5_must_9 : decode cX5_must 9 = .ok (.ifCond .ne 7, 3) := by decide +kernel
theorem dX5_must_12 : decode cX5_must 12 = .ok (.iconst 1, 1) := by decide +kernel
theorem dX5_must_13 : decode cX5_must 13 = .ok (.goto 4, 3) := by decide +kernel
theorem dX5_must_16 : decode cX5_must 16 = .ok (.iconst 0, 1) := by decide +kernel
theorem dX5_must_17 : decode cX5_must 17 = .ok (.putfield 244, 3) := by decide +kernel
theorem dX5_must_20 : decode cX5_must 20 = .ok (.aload_n 0, 1) := by decide +kernel
theorem dX5_must_21 : decode cX5_must 21 = .ok (.getfield 244, 3) := by decide +kernel
theorem dX5_must_24 : decode cX5_must 24 = .ok (.ifCond .ne 7, 3) := by decide +kernel
theorem dX5_must_27 : decode cX5_must 27 = .ok (.aload_n 0, 1) := by decide +kernel
theorem dX5_must_28 : decode cX5_must 28 = .ok (.invokevirtual 248, 3) := by decide +kernel
theorem dX5_must_31 : decode cX5_must 31 = .ok (.return_, 1) := by decide +kernel
theorem dX5_number_0 : decode cX5_number 0 = .ok (.aload_n 0, 1) := by decide +kernel
theorem dX5_number_1 : decode cX5_number 1 = .ok (.getfield 231, 3) := by decide +kernel
theorem dX5_number_4 : decode cX5_number 4 = .ok (.istore_n 3, 1) := by decide +kernel
theorem dX5_number_5 : decode cX5_number 5 = .ok (.aload_n 0, 1) := by decide +kernel
theorem dX5_number_6 : decode cX5_number 6 = .ok (.aload_n 0, 1) := by decide +kernel
theorem dX5_number_7 : decode cX5_number 7 = .ok (.getfield 234, 3) := by decide +kernel
theorem dX5_number_10 : decode cX5_number 10 = .ok (.iconst 2, 1) := by decide +kernel
theorem dX5_number_11 : decode cX5_number 11 = .ok (.if_icmp .ne 16, 3) := by decide +kernel
theorem dX5_number_14 : decode cX5_number 14 = .ok (.iload_n 3, 1) := by decide +kernel
theorem dX5_number_15 : decode cX5_number 15 = .ok (.iload_n 1, 1) := by decide +kernel
theorem dX5_number_16 : decode cX5_number 16 = .ok (.iload_n 2, 1) := by decide +kernel
theorem dX5_number_17 : decode cX5_number 17 = .ok (.invokestatic 70, 3) := by decide +kernel
theorem dX5_number_20 : decode cX5_number 20 = .ok (.ifCond .eq 7, 3) := by decide +kernel
theorem dX5_number_23 : decode cX5_number 23 = .ok (.iconst 1, 1) := by decide +kernel
theorem dX5_number_24 : decode cX5_number 24 = .ok (.goto 4, 3) := by decide +kernel
theorem dX5_number_27 : decode cX5_number 27 = .ok (.iconst 0, 1) := by decide +kernel
theorem dX5_number_28 : decode cX5_number 28 = .ok (.invokevirtual 251, 3) := by decide +kernel
theorem dX5_number_31 : decode cX5_number 31 = .ok (.iload_n 3, 1) := by decide +kernel
theorem dX5_number_32 : decode cX5_number 32 = .ok (.ireturn, 1) := by decide +kernel
theorem dX5_addItem_0 : decode cX5_addItem 0 = .ok (.iconst 4, 1) := by decide +kernel
theorem dX5_addItem_1 : decode cX5_addItem 1 = .ok (.aload_n 0, 1) := by decide +kernel
theorem dX5_addItem_2 : decode cX5_addItem 2 = .ok (.getfield 255, 3) := by decide +kernel
theorem dX5_addItem_5 : decode cX5_addItem 5 = .ok (.imul, 1) := by decide +kernel
theorem dX5_addItem_6 : decode cX5_addItem 6 = .ok (.istore 5, 2) := by decide +kernel
theorem dX5_addItem_8 : decode cX5_addItem 8 = .ok (.aload_n 0, 1) := by decide +kernel
theorem dX5_addItem_9 : decode cX5_addItem 9 = .ok (.getfield 45, 3) := by decide +kernel
theorem dX5_addItem_12 : decode cX5_addItem 12 = .ok (.iload 5, 2) := by decide +kernel
theorem dX5_addItem_14 : decode cX5_addItem 14 = .ok (.iload_n 1, 1) := by decide +kernel
theorem dX5_addItem_15 : decode cX5_addItem 15 = .ok (.iastore, 1) := by decide +kernel
theorem dX5_addItem_16 : decode cX5_addItem 16 = .ok (.aload_n 0, 1) := by decide +kernel
theorem dX5_addItem_17 : decode cX5_addItem 17 = .ok (.getfield 45, 3) := by decide +kernel
theorem dX5_addItem_20 : decode cX5_addItem 20 = .ok (.iload 5, 2) := by decide +kernel
theorem dX5_addItem_22 : decode cX5_addItem 22 = .ok (.iconst 1, 1) := by decide +kernel
theorem dX5_addItem_23 : decode cX5_addItem 23 = .ok (.iadd, 1) := by decide +kernel
theorem dX5_addItem_24 : decode cX5_addItem 24 = .ok (.iload_n 2, 1) := by decide +kernel
theorem dX5_addItem_25 : decode cX5_addItem 25 = .ok (.iastore, 1) := by decide +kernel
theorem dX5_addItem_26 : decode cX5_addItem 26 = .ok (.aload_n 0, 1) := by decide +kernel
theorem dX5_addItem_27 : decode cX5_addItem 27 = .ok (.getfield 45, 3) := by decide +kernel
theorem dX5_addItem_30 : decode cX5_addItem 30 = .ok (.iload 5, 2) := by decide +kernel
theorem dX5_addItem_32 : decode cX5_addItem 32 = .ok (.iconst 2, 1) := by decide +kernel
theorem dX5_addItem_33 : decode cX5_addItem 33 = .ok (.iadd, 1) := by decide +kernel
theorem dX5_addItem_34 : decode cX5_addItem 34 = .ok (.iload_n 3, 1) := by decide +kernel
theorem dX5_addItem_35 : decode cX5_addItem 35 = .ok (.iastore, 1) := by decide +kernel
theorem dX5_addItem_36 : decode cX5_addItem 36 = .ok (.aload_n 0, 1) := by decide +kernel
theorem dX5_addItem_37 : decode cX5_addItem 37 = .ok (.getfield 45, 3) := by decide +kernel
theorem dX5_addItem_40 : decode cX5_addItem 40 = .ok (.iload 5, 2) := by decide +kernel
theorem dX5_addItem_42 : decode cX5_addItem 42 = .ok (.iconst 3, 1) := by decide +kernel
theorem dX5_addItem_43 : decode cX5_addItem 43 = .ok (.iadd, 1) := by decide +kernel
theorem dX5_addItem_44 : decode cX5_addItem 44 = .ok (.iload 4, 2) := by decide +kernel
theorem dX5_addItem_46 : decode cX5_addItem 46 = .ok (.iastore, 1) := by decide +kernel
theorem dX5_addItem_47 : decode cX5_addItem 47 = .ok (.aload_n 0, 1) := by decide +kernel
theorem dX5_addItem_48 : decode cX5_addItem 48 = .ok (.dup, 1) := by decide +kernel
theorem dX5_addItem_49 : decode cX5_addItem 49 = .ok (.getfield 255, 3) := by decide +kernel
theorem dX5_addItem_52 : decode cX5_addItem 52 = .ok (.iconst 1, 1) := by decide +kernel
theorem dX5_addItem_53 : decode cX5_addItem 53 = .ok (.iadd, 1) := by decide +kernel
theorem dX5_addItem_54 : decode cX5_addItem 54 = .ok (.putfield 255, 3) := by decide +kernel
theorem dX5_addItem_57 : decode cX5_addItem 57 = .ok (.return_, 1) := by decide +kernel
theorem dX5_takesWord_0 : decode cX5_takesWord 0 = .ok (.aload_n 0, 1) := by decide +kernel
theorem dX5_takesWord_1 : decode cX5_takesWord 1 = .ok (.getfield 244, 3) := by decide +kernel
theorem dX5_takesWord_4 : decode cX5_takesWord 4 = .ok (.ifCond .ne 15, 3) := by decide +kernel
theorem dX5_takesWord_7 : decode cX5_takesWord 7 = .ok (.aload_n 0, 1) := by decide +kernel
theorem dX5_takesWord_8 : decode cX5_takesWord 8 = .ok (.aload_n 1, 1) := by decide +kernel
theorem dX5_takesWord_9 : decode cX5_takesWord 9 = .ok (.invokevirtual 258, 3) := by decide +kernel
theorem dX5_takesWord_12 : decode cX5_takesWord 12 = .ok (.ifCond .eq 7, 3) := by decide +kernel
theorem dX5_takesWord_15 : decode cX5_takesWord 15 = .ok (.iconst 1, 1) := by decide +kernel
theorem dX5_takesWord_16 : decode cX5_takesWord 16 = .ok (.goto 4, 3) := by decide +kernel
theorem dX5_takesWord_19 : decode cX5_takesWord 19 = .ok (.iconst 0, 1) := by decide +kernel
theorem dX5_takesWord_20 : decode cX5_takesWord 20 = .ok (.istore_n 2, 1) := by decide +kernel
theorem dX5_takesWord_21 : decode cX5_takesWord 21 = .ok (.iload_n 2, 1) := by decide +kernel
theorem dX5_takesWord_22 : decode cX5_takesWord 22 = .ok (.ifCond .eq 8, 3) := by decide +kernel
theorem dX5_takesWord_25 : decode cX5_takesWord 25 = .ok (.aload_n 0, 1) := by decide +kernel
theorem dX5_takesWord_26 : decode cX5_takesWord 26 = .ok (.iconst 1, 1) := by decide +kernel
theorem dX5_takesWord_27 : decode cX5_takesWord 27 = .ok (.invokevirtual 251, 3) := by decide +kernel
theorem dX5_takesWord_30 : decode cX5_takesWord 30 = .ok (.iload_n 2, 1) := by decide +kernel
theorem dX5_takesWord_31 : decode cX5_takesWord 31 = .ok (.ireturn, 1) := by decide +kernel
theorem dX5_readGuest_0 : decode cX5_readGuest 0 = .ok (.aload_n 0, 1) := by decide +kernel
theorem dX5_readGuest_1 : decode cX5_readGuest 1 = .ok (.aload_n 0, 1) := by decide +kernel
theorem dX5_readGuest_2 : decode cX5_readGuest 2 = .ok (.getfield 262, 3) := by decide +kernel
theorem dX5_readGuest_5 : decode cX5_readGuest 5 = .ok (.bipush 8, 2) := by decide +kernel
theorem dX5_readGuest_7 : decode cX5_readGuest 7 = .ok (.if_icmp .ge 7, 3) := by decide +kernel
theorem dX5_readGuest_10 : decode cX5_readGuest 10 = .ok (.iconst 1, 1) := by decide +kernel
theorem dX5_readGuest_11 : decode cX5_readGuest 11 = .ok (.goto 4, 3) := by decide +kernel
theorem dX5_readGuest_14 : decode cX5_readGuest 14 = .ok (.iconst 0, 1) := by decide +kernel
theorem dX5_readGuest_15 : decode cX5_readGuest 15 = .ok (.invokevirtual 251, 3) := by decide +kernel
theorem dX5_readGuest_18 : decode cX5_readGuest 18 = .ok (.aload_n 0, 1) := by decide +kernel
theorem dX5_readGuest_19 : decode cX5_readGuest 19 = .ok (.ldc_w 265, 3) := by decide +kernel
theorem dX5_readGuest_22 : decode cX5_readGuest 22 = .ok (.invokevirtual 267, 3) := by decide +kernel
theorem dX5_readGuest_25 : decode cX5_readGuest 25 = .ok (.ifCond .eq 13, 3) := by decide +kernel
theorem dX5_readGuest_28 : decode cX5_readGuest 28 = .ok (.aload_n 0, 1) := by decide +kernel
theorem dX5_readGuest_29 : decode cX5_readGuest 29 = .ok (.iconst 0, 1) := by decide +kernel
theorem dX5_readGuest_30 : decode cX5_readGuest 30 = .ok (.bipush 15, 2) := by decide +kernel
theorem dX5_readGuest_32 : decode cX5_readGuest 32 = .ok (.invokevirtual 270, 3) := by decide +kernel
theorem dX5_readGuest_35 : decode cX5_readGuest 35 = .ok (.goto 4, 3) := by decide +kernel
theorem dX5_readGuest_38 : decode cX5_readGuest 38 = .ok (.iconst 0, 1) := by decide +kernel
theorem dX5_readGuest_39 : decode cX5_readGuest 39 = .ok (.istore_n 2, 1) := by decide +kernel
theorem dX5_readGuest_40 : decode cX5_readGuest 40 = .ok (.aload_n 0, 1) := by decide +kernel
theorem dX5_readGuest_41 : decode cX5_readGuest 41 = .ok (.ldc_w 273, 3) := by decide +kernel
theorem dX5_readGuest_44 : decode cX5_readGuest 44 = .ok (.invokevirtual 267, 3) := by decide +kernel
theorem dX5_readGuest_47 : decode cX5_readGuest 47 = .ok (.ifCond .eq 13, 3) := by decide +kernel
theorem dX5_readGuest_50 : decode cX5_readGuest 50 = .ok (.aload_n 0, 1) := by decide +kernel
theorem dX5_readGuest_51 : decode cX5_readGuest 51 = .ok (.iconst 1, 1) := by decide +kernel
theorem dX5_readGuest_52 : decode cX5_readGuest 52 = .ok (.bipush 40, 2) := by decide +kernel
theorem dX5_readGuest_54 : decode cX5_readGuest 54 = .ok (.invokevirtual 270, 3) := by decide +kernel
theorem dX5_readGuest_57 : decode cX5_readGuest 57 = .ok (.goto 5, 3) := by decide +kernel
theorem dX5_readGuest_60 : decode cX5_readGuest 60 = .ok (.bipush 10, 2) := by decide +kernel
theorem dX5_readGuest_62 : decode cX5_readGuest 62 = .ok (.istore_n 3, 1) := by decide +kernel
theorem dX5_readGuest_63 : decode cX5_readGuest 63 = .ok (.aload_n 0, 1) := by decide +kernel
theorem dX5_readGuest_64 : decode cX5_readGuest 64 = .ok (.iload_n 1, 1) := by decide +kernel
theorem dX5_readGuest_65 : decode cX5_readGuest 65 = .ok (.iload_n 2, 1) := by decide +kernel
theorem dX5_readGuest_66 : decode cX5_readGuest 66 = .ok (.iload_n 3, 1) := by decide +kernel
theorem dX5_readGuest_67 : decode cX5_readGuest 67 = .ok (.aload_n 0, 1) := by decide +kernel
theorem dX5_readGuest_68 : decode cX5_readGuest 68 = .ok (.ldc_w 275, 3) := by decide +kernel
theorem dX5_readGuest_71 : decode cX5_readGuest 71 = .ok (.invokevirtual 267, 3) := by decide +kernel
theorem dX5_readGuest_74 : decode cX5_readGuest 74 = .ok (.ifCond .eq 13, 3) := by decide +kernel
theorem dX5_readGuest_77 : decode cX5_readGuest 77 = .ok (.aload_n 0, 1) := by decide +kernel
theorem dX5_readGuest_78 : decode cX5_readGuest 78 = .ok (.iconst 0, 1) := by decide +kernel
theorem dX5_readGuest_79 : decode cX5_readGuest 79 = .ok (.bipush 15, 2) := by decide +kernel
theorem dX5_readGuest_81 : decode cX5_readGuest 81 = .ok (.invokevirtual 270, 3) := by decide +kernel
theorem dX5_readGuest_84 : decode cX5_readGuest 84 = .ok (.goto 4, 3) := by decide +kernel
theorem dX5_readGuest_87 : decode cX5_readGuest 87 = .ok (.iload_n 2, 1) := by decide +kernel
theorem dX5_readGuest_88 : decode cX5_readGuest 88 = .ok (.invokevirtual 277, 3) := by decide +kernel
theorem dX5_readGuest_91 : decode cX5_readGuest 91 = .ok (.aload_n 0, 1) := by decide +kernel
theorem dX5_readGuest_92 : decode cX5_readGuest 92 = .ok (.dup, 1) := by decide +kernel
theorem dX5_readGuest_93 : decode cX5_readGuest 93 = .ok (.getfield 262, 3) := by decide +kernel
theorem dX5_readGuest_96 : decode cX5_readGuest 96 = .ok (.iconst 1, 1) := by decide +kernel
theorem dX5_readGuest_97 : decode cX5_readGuest 97 = .ok (.iadd, 1) := by decide +kernel
theorem dX5_readGuest_98 : decode cX5_readGuest 98 = .ok (.putfield 262, 3) := by decide +kernel
theorem dX5_readGuest_101 : decode cX5_readGuest 101 = .ok (.return_, 1) := by decide +kernel
theorem dX5_readItem_0 : decode cX5_readItem 0 = .ok (.iconst (-1), 1) := by decide +kernel
theorem dX5_readItem_1 : decode cX5_readItem 1 = .ok (.istore_n 1, 1) := by decide +kernel
theorem dX5_readItem_2 : decode cX5_readItem 2 = .ok (.iconst 0, 1) := by decide +kernel
theorem dX5_readItem_3 : decode cX5_readItem 3 = .ok (.istore_n 2, 1) := by decide +kernel
theorem dX5_readItem_4 : decode cX5_readItem 4 = .ok (.iload_n 2, 1) := by decide +kernel
theorem dX5_readItem_5 : decode cX5_readItem 5 = .ok (.aload_n 0, 1) := by decide +kernel
theorem dX5_readItem_6 : decode cX5_readItem 6 = .ok (.getfield 41, 3) := by decide +kernel
theorem dX5_readItem_9 : decode cX5_readItem 9 = .ok (.arraylength, 1) := by decide +kernel
theorem dX5_readItem_10 : decode cX5_readItem 10 = .ok (.if_icmp .ge 28, 3) := by decide +kernel
theorem dX5_readItem_13 : decode cX5_readItem 13 = .ok (.aload_n 0, 1) := by decide +kernel
theorem dX5_readItem_14 : decode cX5_readItem 14 = .ok (.aload_n 0, 1) := by decide +kernel
theorem dX5_readItem_15 : decode cX5_readItem 15 = .ok (.getfield 41, 3) := by decide +kernel
theorem dX5_readItem_18 : decode cX5_readItem 18 = .ok (.iload_n 2, 1) := by decide +kernel
theorem dX5_readItem_19 : decode cX5_readItem 19 = .ok (.aaload, 1) := by decide +kernel
theorem dX5_readItem_20 : decode cX5_readItem 20 = .ok (.invokevirtual 258, 3) := by decide +kernel
theorem dX5_readItem_23 : decode cX5_readItem 23 = .ok (.ifCond .eq 7, 3) := by decide +kernel
theorem dX5_readItem_26 : decode cX5_readItem 26 = .ok (.iload_n 2, 1) := by decide +kernel
theorem dX5_readItem_27 : decode cX5_readItem 27 = .ok (.goto 4, 3) := by decide +kernel
theorem dX5_readItem_30 : decode cX5_readItem 30 = .ok (.iload_n 1, 1) := by decide +kernel
theorem dX5_readItem_31 : decode cX5_readItem 31 = .ok (.istore_n 1, 1) := by decide +kernel
theorem dX5_readItem_32 : decode cX5_readItem 32 = .ok (.iinc 2 1, 3) := by decide +kernel
theorem dX5_readItem_35 : decode cX5_readItem 35 = .ok (.goto (-31), 3) := by decide +kernel
theorem dX5_readItem_38 : decode cX5_readItem 38 = .ok (.iload_n 1, 1) := by decide +kernel
theorem dX5_readItem_39 : decode cX5_readItem 39 = .ok (.ifCond .lt 11, 3) := by decide +kernel
theorem dX5_readItem_42 : decode cX5_readItem 42 = .ok (.aload_n 0, 1) := by decide +kernel
theorem dX5_readItem_43 : decode cX5_readItem 43 = .ok (.iload_n 1, 1) := by decide +kernel
theorem dX5_readItem_44 : decode cX5_readItem 44 = .ok (.invokevirtual 281, 3) := by decide +kernel
theorem dX5_readItem_47 : decode cX5_readItem 47 = .ok (.goto 109, 3) := by decide +kernel
theorem dX5_readItem_50 : decode cX5_readItem 50 = .ok (.aload_n 0, 1) := by decide +kernel
theorem dX5_readItem_51 : decode cX5_readItem 51 = .ok (.ldc_w 284, 3) := by decide +kernel
theorem dX5_readItem_54 : decode cX5_readItem 54 = .ok (.invokevirtual 267, 3) := by decide +kernel
theorem dX5_readItem_57 : decode cX5_readItem 57 = .ok (.ifCond .eq 29, 3) := by decide +kernel
theorem dX5_readItem_60 : decode cX5_readItem 60 = .ok (.aload_n 0, 1) := by decide +kernel
theorem dX5_readItem_61 : decode cX5_readItem 61 = .ok (.iconst 0, 1) := by decide +kernel
theorem dX5_readItem_62 : decode cX5_readItem 62 = .ok (.bipush 15, 2) := by decide +kernel
theorem dX5_readItem_64 : decode cX5_readItem 64 = .ok (.invokevirtual 270, 3) := by decide +kernel
theorem dX5_readItem_67 : decode cX5_readItem 67 = .ok (.istore_n 2, 1) := by decide +kernel
theorem dX5_readItem_68 : decode cX5_readItem 68 = .ok (.aload_n 0, 1) := by decide +kernel
theorem dX5_readItem_69 : decode cX5_readItem 69 = .ok (.bipush 10, 2) := by decide +kernel
theorem dX5_readItem_71 : decode cX5_readItem 71 = .ok (.iload_n 2, 1) := by decide +kernel
theorem dX5_readItem_72 : decode cX5_readItem 72 = .ok (.aload_n 0, 1) := by decide +kernel
theorem dX5_readItem_73 : decode cX5_readItem 73 = .ok (.iconst 0, 1) := by decide +kernel
theorem dX5_readItem_74 : decode cX5_readItem 74 = .ok (.bipush 40, 2) := by decide +kernel
theorem dX5_readItem_76 : decode cX5_readItem 76 = .ok (.invokevirtual 270, 3) := by decide +kernel
theorem dX5_readItem_79 : decode cX5_readItem 79 = .ok (.iconst 0, 1) := by decide +kernel
theorem dX5_readItem_80 : decode cX5_readItem 80 = .ok (.invokevirtual 277, 3) := by decide +kernel
theorem dX5_readItem_83 : decode cX5_readItem 83 = .ok (.goto 73, 3) := by decide +kernel
theorem dX5_readItem_86 : decode cX5_readItem 86 = .ok (.aload_n 0, 1) := by decide +kernel
theorem dX5_readItem_87 : decode cX5_readItem 87 = .ok (.ldc_w 286, 3) := by decide +kernel
theorem dX5_readItem_90 : decode cX5_readItem 90 = .ok (.invokevirtual 267, 3) := by decide +kernel
theorem dX5_readItem_93 : decode cX5_readItem 93 = .ok (.ifCond .eq 29, 3) := by decide +kernel
theorem dX5_readItem_96 : decode cX5_readItem 96 = .ok (.aload_n 0, 1) := by decide +kernel
theorem dX5_readItem_97 : decode cX5_readItem 97 = .ok (.iconst 0, 1) := by decide +kernel
theorem dX5_readItem_98 : decode cX5_readItem 98 = .ok (.iconst 5, 1) := by decide +kernel
theorem dX5_readItem_99 : decode cX5_readItem 99 = .ok (.invokevirtual 270, 3) := by decide +kernel
theorem dX5_readItem_102 : decode cX5_readItem 102 = .ok (.istore_n 2, 1) := by decide +kernel
theorem dX5_readItem_103 : decode cX5_readItem 103 = .ok (.aload_n 0, 1) := by decide +kernel
theorem dX5_readItem_104 : decode cX5_readItem 104 = .ok (.bipush 11, 2) := by decide +kernel
theorem dX5_readItem_106 : decode cX5_readItem 106 = .ok (.iload_n 2, 1) := by decide +kernel
theorem dX5_readItem_107 : decode cX5_readItem 107 = .ok (.aload_n 0, 1) := by decide +kernel
theorem dX5_readItem_108 : decode cX5_readItem 108 = .ok (.bipush 16, 2) := by decide +kernel
theorem dX5_readItem_110 : decode cX5_readItem 110 = .ok (.bipush 36, 2) := by decide +kernel
theorem dX5_readItem_112 : decode cX5_readItem 112 = .ok (.invokevirtual 270, 3) := by decide +kernel
theorem dX5_readItem_115 : decode cX5_readItem 115 = .ok (.iconst 0, 1) := by decide +kernel
theorem dX5_readItem_116 : decode cX5_readItem 116 = .ok (.invokevirtual 277, 3) := by decide +kernel
theorem dX5_readItem_119 : decode cX5_readItem 119 = .ok (.goto 37, 3) := by decide +kernel
theorem dX5_readItem_122 : decode cX5_readItem 122 = .ok (.aload_n 0, 1) := by decide +kernel
theorem dX5_readItem_123 : decode cX5_readItem 123 = .ok (.ldc_w 288, 3) := by decide +kernel
theorem dX5_readItem_126 : decode cX5_readItem 126 = .ok (.invokevirtual 267, 3) := by decide +kernel
theorem dX5_readItem_129 : decode cX5_readItem 129 = .ok (.ifCond .eq 22, 3) := by decide +kernel
theorem dX5_readItem_132 : decode cX5_readItem 132 = .ok (.aload_n 0, 1) := by decide +kernel
theorem dX5_readItem_133 : decode cX5_readItem 133 = .ok (.bipush 12, 2) := by decide +kernel
theorem dX5_readItem_135 : decode cX5_readItem 135 = .ok (.aload_n 0, 1) := by decide +kernel
theorem dX5_readItem_136 : decode cX5_readItem 136 = .ok (.iconst 0, 1) := by decide +kernel
theorem dX5_readItem_137 : decode cX5_readItem 137 = .ok (.sipush 999, 3) := by decide +kernel
theorem dX5_readItem_140 : decode cX5_readItem 140 = .ok (.invokevirtual 270, 3) := by decide +kernel
theorem dX5_readItem_143 : decode cX5_readItem 143 = .ok (.iconst 0, 1) := by decide +kernel
theorem dX5_readItem_144 : decode cX5_readItem 144 = .ok (.iconst 0, 1) := by decide +kernel
theorem dX5_readItem_145 : decode cX5_readItem 145 = .ok (.invokevirtual 277, 3) := by decide +kernel
theorem dX5_readItem_148 : decode cX5_readItem 148 = .ok (.goto 8, 3) := by decide +kernel
theorem dX5_readItem_151 : decode cX5_readItem 151 = .ok (.aload_n 0, 1) := by decide +kernel
theorem dX5_readItem_152 : decode cX5_readItem 152 = .ok (.iconst 0, 1) := by decide +kernel
theorem dX5_readItem_153 : decode cX5_readItem 153 = .ok (.invokevirtual 251, 3) := by decide +kernel
theorem dX5_readItem_156 : decode cX5_readItem 156 = .ok (.return_, 1) := by decide +kernel
theorem dX5_isToldSo_0 : decode cX5_isToldSo 0 = .ok (.aload_n 0, 1) := by decide +kernel
theorem dX5_isToldSo_1 : decode cX5_isToldSo 1 = .ok (.getfield 45, 3) := by decide +kernel
theorem dX5_isToldSo_4 : decode cX5_isToldSo 4 = .ok (.iload_n 1, 1) := by decide +kernel
theorem dX5_isToldSo_5 : decode cX5_isToldSo 5 = .ok (.iconst 1, 1) := by decide +kernel
theorem dX5_isToldSo_6 : decode cX5_isToldSo 6 = .ok (.iadd, 1) := by decide +kernel
theorem dX5_isToldSo_7 : decode cX5_isToldSo 7 = .ok (.iaload, 1) := by decide +kernel
theorem dX5_isToldSo_8 : decode cX5_isToldSo 8 = .ok (.istore_n 2, 1) := by decide +kernel
theorem dX5_isToldSo_9 : decode cX5_isToldSo 9 = .ok (.aload_n 0, 1) := by decide +kernel
theorem dX5_isToldSo_10 : decode cX5_isToldSo 10 = .ok (.getfield 45, 3) := by decide +kernel
theorem dX5_isToldSo_13 : decode cX5_isToldSo 13 = .ok (.iload_n 1, 1) := by decide +kernel
theorem dX5_isToldSo_14 : decode cX5_isToldSo 14 = .ok (.iconst 2, 1) := by decide +kernel
theorem dX5_isToldSo_15 : decode cX5_isToldSo 15 = .ok (.iadd, 1) := by decide +kernel
theorem dX5_isToldSo_16 : decode cX5_isToldSo 16 = .ok (.iaload, 1) := by decide +kernel
theorem dX5_isToldSo_17 : decode cX5_isToldSo 17 = .ok (.istore_n 3, 1) := by decide +kernel
theorem dX5_isToldSo_18 : decode cX5_isToldSo 18 = .ok (.aload_n 0, 1) := by decide +kernel
theorem dX5_isToldSo_19 : decode cX5_isToldSo 19 = .ok (.getfield 45, 3) := by decide +kernel
theorem dX5_isToldSo_22 : decode cX5_isToldSo 22 = .ok (.iload_n 1, 1) := by decide +kernel
theorem dX5_isToldSo_23 : decode cX5_isToldSo 23 = .ok (.iaload, 1) := by decide +kernel
theorem dX5_isToldSo_24 : decode cX5_isToldSo 24 = .ok (.tableswitch 64 10 12 #[28, 41, 54], 28) := by decide +kernel
theorem dX5_isToldSo_52 : decode cX5_isToldSo 52 = .ok (.aload_n 0, 1) := by decide +kernel
theorem dX5_isToldSo_53 : decode cX5_isToldSo 53 = .ok (.getfield 9, 3) := by decide +kernel
theorem dX5_isToldSo_56 : decode cX5_isToldSo 56 = .ok (.bipush 12, 2) := by decide +kernel
theorem dX5_isToldSo_58 : decode cX5_isToldSo 58 = .ok (.iload_n 2, 1) := by decide +kernel
theorem dX5_isToldSo_59 : decode cX5_isToldSo 59 = .ok (.iadd, 1) := by decide +kernel
theorem dX5_isToldSo_60 : decode cX5_isToldSo 60 = .ok (.iload_n 3, 1) := by decide +kernel
theorem dX5_isToldSo_61 : decode cX5_isToldSo 61 = .ok (.iastore, 1) := by decide +kernel
theorem dX5_isToldSo_62 : decode cX5_isToldSo 62 = .ok (.goto 70, 3) := by decide +kernel
theorem dX5_isToldSo_65 : decode cX5_isToldSo 65 = .ok (.aload_n 0, 1) := by decide +kernel
theorem dX5_isToldSo_66 : decode cX5_isToldSo 66 = .ok (.getfield 9, 3) := by decide +kernel
theorem dX5_isToldSo_69 : decode cX5_isToldSo 69 = .ok (.bipush 6, 2) := by decide +kernel
theorem dX5_isToldSo_71 : decode cX5_isToldSo 71 = .ok (.iload_n 2, 1) := by decide +kernel
theorem dX5_isToldSo_72 : decode cX5_isToldSo 72 = .ok (.iadd, 1) := by decide +kernel
theorem dX5_isToldSo_73 : decode cX5_isToldSo 73 = .ok (.iload_n 3, 1) := by decide +kernel
theorem dX5_isToldSo_74 : decode cX5_isToldSo 74 = .ok (.iastore, 1) := by decide +kernel
theorem dX5_isToldSo_75 : decode cX5_isToldSo 75 = .ok (.goto 57, 3) := by decide +kernel
theorem dX5_isToldSo_78 : decode cX5_isToldSo 78 = .ok (.aload_n 0, 1) := by decide +kernel
theorem dX5_isToldSo_79 : decode cX5_isToldSo 79 = .ok (.getfield 9, 3) := by decide +kernel
theorem dX5_isToldSo_82 : decode cX5_isToldSo 82 = .ok (.iconst 3, 1) := by decide +kernel
theorem dX5_isToldSo_83 : decode cX5_isToldSo 83 = .ok (.iload_n 2, 1) := by decide +kernel
theorem dX5_isToldSo_84 : decode cX5_isToldSo 84 = .ok (.iastore, 1) := by decide +kernel
theorem dX5_isToldSo_85 : decode cX5_isToldSo 85 = .ok (.goto 47, 3) := by decide +kernel
theorem dX5_isToldSo_88 : decode cX5_isToldSo 88 = .ok (.aload_n 0, 1) := by decide +kernel
theorem dX5_isToldSo_89 : decode cX5_isToldSo 89 = .ok (.aload_n 0, 1) := by decide +kernel
theorem dX5_isToldSo_90 : decode cX5_isToldSo 90 = .ok (.getfield 45, 3) := by decide +kernel
theorem dX5_isToldSo_93 : decode cX5_isToldSo 93 = .ok (.iload_n 1, 1) := by decide +kernel
theorem dX5_isToldSo_94 : decode cX5_isToldSo 94 = .ok (.iaload, 1) := by decide +kernel
theorem dX5_isToldSo_95 : decode cX5_isToldSo 95 = .ok (.iload_n 2, 1) := by decide +kernel
theorem dX5_isToldSo_96 : decode cX5_isToldSo 96 = .ok (.invokevirtual 113, 3) := by decide +kernel
theorem dX5_isToldSo_99 : decode cX5_isToldSo 99 = .ok (.istore 4, 2) := by decide +kernel
theorem dX5_isToldSo_101 : decode cX5_isToldSo 101 = .ok (.aload_n 0, 1) := by decide +kernel
theorem dX5_isToldSo_102 : decode cX5_isToldSo 102 = .ok (.getfield 9, 3) := by decide +kernel
theorem dX5_isToldSo_105 : decode cX5_isToldSo 105 = .ok (.iload 4, 2) := by decide +kernel
theorem dX5_isToldSo_107 : decode cX5_isToldSo 107 = .ok (.iconst 2, 1) := by decide +kernel
theorem dX5_isToldSo_108 : decode cX5_isToldSo 108 = .ok (.invokestatic 106, 3) := by decide +kernel
theorem dX5_isToldSo_111 : decode cX5_isToldSo 111 = .ok (.iload_n 3, 1) := by decide +kernel
theorem dX5_isToldSo_112 : decode cX5_isToldSo 112 = .ok (.iastore, 1) := by decide +kernel
theorem dX5_isToldSo_113 : decode cX5_isToldSo 113 = .ok (.aload_n 0, 1) := by decide +kernel
theorem dX5_isToldSo_114 : decode cX5_isToldSo 114 = .ok (.getfield 9, 3) := by decide +kernel
theorem dX5_isToldSo_117 : decode cX5_isToldSo 117 = .ok (.iload 4, 2) := by decide +kernel
theorem dX5_isToldSo_119 : decode cX5_isToldSo 119 = .ok (.iconst 3, 1) := by decide +kernel
theorem dX5_isToldSo_120 : decode cX5_isToldSo 120 = .ok (.invokestatic 106, 3) := by decide +kernel
theorem dX5_isToldSo_123 : decode cX5_isToldSo 123 = .ok (.aload_n 0, 1) := by decide +kernel
theorem dX5_isToldSo_124 : decode cX5_isToldSo 124 = .ok (.getfield 45, 3) := by decide +kernel
theorem dX5_isToldSo_127 : decode cX5_isToldSo 127 = .ok (.iload_n 1, 1) := by decide +kernel
theorem dX5_isToldSo_128 : decode cX5_isToldSo 128 = .ok (.iconst 3, 1) := by decide +kernel
theorem dX5_isToldSo_129 : decode cX5_isToldSo 129 = .ok (.iadd, 1) := by decide +kernel
theorem dX5_isToldSo_130 : decode cX5_isToldSo 130 = .ok (.iaload, 1) := by decide +kernel
theorem dX5_isToldSo_131 : decode cX5_isToldSo 131 = .ok (.iastore, 1) := by decide +kernel
theorem dX5_isToldSo_132 : decode cX5_isToldSo 132 = .ok (.return_, 1) := by decide +kernel
theorem dX5_text_0 : decode cX5_text 0 = .ok (.aload_n 0, 1) := by decide +kernel
theorem dX5_text_1 : decode cX5_text 1 = .ok (.iconst 0, 1) := by decide +kernel
theorem dX5_text_2 : decode cX5_text 2 = .ok (.putfield 222, 3) := by decide +kernel
theorem dX5_text_5 : decode cX5_text 5 = .ok (.aload_n 0, 1) := by decide +kernel
theorem dX5_text_6 : decode cX5_text 6 = .ok (.iconst 0, 1) := by decide +kernel
theorem dX5_text_7 : decode cX5_text 7 = .ok (.putfield 244, 3) := by decide +kernel
theorem dX5_text_10 : decode cX5_text 10 = .ok (.aload_n 0, 1) := by decide +kernel
theorem dX5_text_11 : decode cX5_text 11 = .ok (.iconst 0, 1) := by decide +kernel
theorem dX5_text_12 : decode cX5_text 12 = .ok (.putfield 255, 3) := by decide +kernel
theorem dX5_text_15 : decode cX5_text 15 = .ok (.aload_n 0, 1) := by decide +kernel
theorem dX5_text_16 : decode cX5_text 16 = .ok (.aload_n 0, 1) := by decide +kernel
theorem dX5_text_17 : decode cX5_text 17 = .ok (.getfield 9, 3) := by decide +kernel
theorem dX5_text_20 : decode cX5_text 20 = .ok (.iconst 1, 1) := by decide +kernel
theorem dX5_text_21 : decode cX5_text 21 = .ok (.iaload, 1) := by decide +kernel
theorem dX5_text_22 : decode cX5_text 22 = .ok (.putfield 262, 3) := by decide +kernel
theorem dX5_text_25 : decode cX5_text 25 = .ok (.aload_n 0, 1) := by decide +kernel
theorem dX5_text_26 : decode cX5_text 26 = .ok (.invokevirtual 248, 3) := by decide +kernel
theorem dX5_text_29 : decode cX5_text 29 = .ok (.aload_n 0, 1) := by decide +kernel
theorem dX5_text_30 : decode cX5_text 30 = .ok (.invokevirtual 290, 3) := by decide +kernel
theorem dX5_text_33 : decode cX5_text 33 = .ok (.aload_n 0, 1) := by decide +kernel
theorem dX5_text_34 : decode cX5_text 34 = .ok (.getfield 244, 3) := by decide +kernel
theorem dX5_text_37 : decode cX5_text 37 = .ok (.ifCond .ne 37, 3) := by decide +kernel
theorem dX5_text_40 : decode cX5_text 40 = .ok (.aload_n 0, 1) := by decide +kernel
theorem dX5_text_41 : decode cX5_text 41 = .ok (.getfield 234, 3) := by decide +kernel
theorem dX5_text_44 : decode cX5_text 44 = .ok (.iconst 3, 1) := by decide +kernel
theorem dX5_text_45 : decode cX5_text 45 = .ok (.if_icmp .ne 29, 3) := by decide +kernel
theorem dX5_text_48 : decode cX5_text 48 = .ok (.aload_n 0, 1) := by decide +kernel
theorem dX5_text_49 : decode cX5_text 49 = .ok (.getfield 22, 3) := by decide +kernel
theorem dX5_text_52 : decode cX5_text 52 = .ok (.aload_n 0, 1) := by decide +kernel
theorem dX5_text_53 : decode cX5_text 53 = .ok (.getfield 225, 3) := by decide +kernel
theorem dX5_text_56 : decode cX5_text 56 = .ok (.iaload, 1) := by decide +kernel
theorem dX5_text_57 : decode cX5_text 57 = .ok (.bipush 59, 2) := by decide +kernel
theorem dX5_text_59 : decode cX5_text 59 = .ok (.if_icmp .ne 15, 3) := by decide +kernel
theorem dX5_text_62 : decode cX5_text 62 = .ok (.aload_n 0, 1) := by decide +kernel
theorem dX5_text_63 : decode cX5_text 63 = .ok (.iconst 1, 1) := by decide +kernel
theorem dX5_text_64 : decode cX5_text 64 = .ok (.invokevirtual 251, 3) := by decide +kernel
theorem dX5_text_67 : decode cX5_text 67 = .ok (.aload_n 0, 1) := by decide +kernel
theorem dX5_text_68 : decode cX5_text 68 = .ok (.invokevirtual 290, 3) := by decide +kernel
theorem dX5_text_71 : decode cX5_text 71 = .ok (.goto (-38), 3) := by decide +kernel
theorem dX5_text_74 : decode cX5_text 74 = .ok (.aload_n 0, 1) := by decide +kernel
theorem dX5_text_75 : decode cX5_text 75 = .ok (.aload_n 0, 1) := by decide +kernel
theorem dX5_text_76 : decode cX5_text 76 = .ok (.getfield 234, 3) := by decide +kernel
theorem dX5_text_79 : decode cX5_text 79 = .ok (.ifCond .ne 7, 3) := by decide +kernel
theorem dX5_text_82 : decode cX5_text 82 = .ok (.iconst 1, 1) := by decide +kernel
theorem dX5_text_83 : decode cX5_text 83 = .ok (.goto 4, 3) := by decide +kernel
theorem dX5_text_86 : decode cX5_text 86 = .ok (.iconst 0, 1) := by decide +kernel
theorem dX5_text_87 : decode cX5_text 87 = .ok (.invokevirtual 251, 3) := by decide +kernel
theorem dX5_text_90 : decode cX5_text 90 = .ok (.aload_n 0, 1) := by decide +kernel
theorem dX5_text_91 : decode cX5_text 91 = .ok (.iconst 0, 1) := by decide +kernel
theorem dX5_text_92 : decode cX5_text 92 = .ok (.putfield 218, 3) := by decide +kernel
theorem dX5_text_95 : decode cX5_text 95 = .ok (.aload_n 0, 1) := by decide +kernel
theorem dX5_text_96 : decode cX5_text 96 = .ok (.getfield 244, 3) := by decide +kernel
theorem dX5_text_99 : decode cX5_text 99 = .ok (.ifCond .eq 10, 3) := by decide +kernel
theorem dX5_text_102 : decode cX5_text 102 = .ok (.iconst (-1), 1) := by decide +kernel
theorem dX5_text_103 : decode cX5_text 103 = .ok (.aload_n 0, 1) := by decide +kernel
theorem dX5_text_104 : decode cX5_text 104 = .ok (.getfield 225, 3) := by decide +kernel
theorem dX5_text_107 : decode cX5_text 107 = .ok (.isub, 1) := by decide +kernel
theorem dX5_text_108 : decode cX5_text 108 = .ok (.ireturn, 1) := by decide +kernel
theorem dX5_text_109 : decode cX5_text 109 = .ok (.iconst 0, 1) := by decide +kernel
theorem dX5_text_110 : decode cX5_text 110 = .ok (.istore_n 1, 1) := by decide +kernel
theorem dX5_text_111 : decode cX5_text 111 = .ok (.iload_n 1, 1) := by decide +kernel
theorem dX5_text_112 : decode cX5_text 112 = .ok (.aload_n 0, 1) := by decide +kernel
theorem dX5_text_113 : decode cX5_text 113 = .ok (.getfield 255, 3) := by decide +kernel
theorem dX5_text_116 : decode cX5_text 116 = .ok (.if_icmp .ge 16, 3) := by decide +kernel
theorem dX5_text_119 : decode cX5_text 119 = .ok (.aload_n 0, 1) := by decide +kernel
theorem dX5_text_120 : decode cX5_text 120 = .ok (.iconst 4, 1) := by decide +kernel
theorem dX5_text_121 : decode cX5_text 121 = .ok (.iload_n 1, 1) := by decide +kernel
theorem dX5_text_122 : decode cX5_text 122 = .ok (.imul, 1) := by decide +kernel
theorem dX5_text_123 : decode cX5_text 123 = .ok (.invokevirtual 293, 3) := by decide +kernel
theorem dX5_text_126 : decode cX5_text 126 = .ok (.iinc 1 1, 3) := by decide +kernel
theorem dX5_text_129 : decode cX5_text 129 = .ok (.goto (-18), 3) := by decide +kernel
theorem dX5_text_132 : decode cX5_text 132 = .ok (.aload_n 0, 1) := by decide +kernel
theorem dX5_text_133 : decode cX5_text 133 = .ok (.getfield 255, 3) := by decide +kernel
theorem dX5_text_136 : decode cX5_text 136 = .ok (.ireturn, 1) := by decide +kernel
theorem dX5_isSpot_0 : decode cX5_isSpot 0 = .ok (.iload_n 0, 1) := by decide +kernel
theorem dX5_isSpot_1 : decode cX5_isSpot 1 = .ok (.iconst 0, 1) := by decide +kernel
theorem dX5_isSpot_2 : decode cX5_isSpot 2 = .ok (.bipush 9, 2) := by decide +kernel
theorem dX5_isSpot_4 : decode cX5_isSpot 4 = .ok (.invokestatic 70, 3) := by decide +kernel
theorem dX5_isSpot_7 : decode cX5_isSpot 7 = .ok (.ireturn, 1) := by decide +kernel
theorem dX5_hold_0 : decode cX5_hold 0 = .ok (.iload_n 1, 1) := by decide +kernel
theorem dX5_hold_1 : decode cX5_hold 1 = .ok (.invokestatic 296, 3) := by decide +kernel
theorem dX5_hold_4 : decode cX5_hold 4 = .ok (.ifCond .eq 16, 3) := by decide +kernel
theorem dX5_hold_7 : decode cX5_hold 7 = .ok (.iload_n 2, 1) := by decide +kernel
theorem dX5_hold_8 : decode cX5_hold 8 = .ok (.iconst (-1), 1) := by decide +kernel
theorem dX5_hold_9 : decode cX5_hold 9 = .ok (.if_icmp .eq 18, 3) := by decide +kernel
theorem dX5_hold_12 : decode cX5_hold 12 = .ok (.aload_n 0, 1) := by decide +kernel
theorem dX5_hold_13 : decode cX5_hold 13 = .ok (.iload_n 2, 1) := by decide +kernel
theorem dX5_hold_14 : decode cX5_hold 14 = .ok (.invokevirtual 131, 3) := by decide +kernel
theorem dX5_hold_17 : decode cX5_hold 17 = .ok (.ifCond .ne 10, 3) := by decide +kernel
theorem dX5_hold_20 : decode cX5_hold 20 = .ok (.aload_n 0, 1) := by decide +kernel
theorem dX5_hold_21 : decode cX5_hold 21 = .ok (.ldc 60, 2) := by decide +kernel
theorem dX5_hold_23 : decode cX5_hold 23 = .ok (.invokevirtual 66, 3) := by decide +kernel
theorem dX5_hold_26 : decode cX5_hold 26 = .ok (.ireturn, 1) := by decide +kernel
theorem dX5_hold_27 : decode cX5_hold 27 = .ok (.aload_n 0, 1) := by decide +kernel
theorem dX5_hold_28 : decode cX5_hold 28 = .ok (.getfield 9, 3) := by decide +kernel
theorem dX5_hold_31 : decode cX5_hold 31 = .ok (.bipush 28, 2) := by decide +kernel
theorem dX5_hold_33 : decode cX5_hold 33 = .ok (.iload_n 1, 1) := by decide +kernel
theorem dX5_hold_34 : decode cX5_hold 34 = .ok (.iadd, 1) := by decide +kernel
theorem dX5_hold_35 : decode cX5_hold 35 = .ok (.iload_n 2, 1) := by decide +kernel
theorem dX5_hold_36 : decode cX5_hold 36 = .ok (.iastore, 1) := by decide +kernel
theorem dX5_hold_37 : decode cX5_hold 37 = .ok (.iconst 1, 1) := by decide +kernel
theorem dX5_hold_38 : decode cX5_hold 38 = .ok (.ireturn, 1) := by decide +kernel
theorem dX5_as_0 : decode cX5_as 0 = .ok (.iload_n 1, 1) := by decide +kernel
theorem dX5_as_1 : decode cX5_as 1 = .ok (.invokestatic 296, 3) := by decide +kernel
theorem dX5_as_4 : decode cX5_as 4 = .ok (.ifCond .eq 10, 3) := by decide +kernel
theorem dX5_as_7 : decode cX5_as 7 = .ok (.iload_n 2, 1) := by decide +kernel
theorem dX5_as_8 : decode cX5_as 8 = .ok (.invokestatic 109, 3) := by decide +kernel
theorem dX5_as_11 : decode cX5_as 11 = .ok (.ifCond .ne 10, 3) := by decide +kernel
theorem dX5_as_14 : decode cX5_as 14 = .ok (.aload_n 0, 1) := by decide +kernel
theorem dX5_as_15 : decode cX5_as 15 = .ok (.ldc 60, 2) := by decide +kernel
theorem dX5_as_17 : decode cX5_as 17 = .ok (.invokevirtual 66, 3) := by decide +kernel
theorem dX5_as_20 : decode cX5_as 20 = .ok (.ireturn, 1) := by decide +kernel
theorem dX5_as_21 : decode cX5_as 21 = .ok (.aload_n 0, 1) := by decide +kernel
theorem dX5_as_22 : decode cX5_as 22 = .ok (.getfield 9, 3) := by decide +kernel
theorem dX5_as_25 : decode cX5_as 25 = .ok (.bipush 28, 2) := by decide +kernel
theorem dX5_as_27 : decode cX5_as 27 = .ok (.iload_n 1, 1) := by decide +kernel
theorem dX5_as_28 : decode cX5_as 28 = .ok (.iadd, 1) := by decide +kernel
theorem dX5_as_29 : decode cX5_as 29 = .ok (.iaload, 1) := by decide +kernel
theorem dX5_as_30 : decode cX5_as 30 = .ok (.istore_n 3, 1) := by decide +kernel
theorem dX5_as_31 : decode cX5_as 31 = .ok (.iload_n 3, 1) := by decide +kernel
theorem dX5_as_32 : decode cX5_as 32 = .ok (.ifCond .ge 10, 3) := by decide +kernel
theorem dX5_as_35 : decode cX5_as 35 = .ok (.aload_n 0, 1) := by decide +kernel
theorem dX5_as_36 : decode cX5_as 36 = .ok (.ldc 206, 2) := by decide +kernel
theorem dX5_as_38 : decode cX5_as 38 = .ok (.invokevirtual 66, 3) := by decide +kernel
theorem dX5_as_41 : decode cX5_as 41 = .ok (.ireturn, 1) := by decide +kernel
theorem dX5_as_42 : decode cX5_as 42 = .ok (.aload_n 0, 1) := by decide +kernel
theorem dX5_as_43 : decode cX5_as 43 = .ok (.iload_n 3, 1) := by decide +kernel
theorem dX5_as_44 : decode cX5_as 44 = .ok (.iconst 0, 1) := by decide +kernel
theorem dX5_as_45 : decode cX5_as 45 = .ok (.invokevirtual 116, 3) := by decide +kernel
theorem dX5_as_48 : decode cX5_as 48 = .ok (.iload_n 2, 1) := by decide +kernel
theorem dX5_as_49 : decode cX5_as 49 = .ok (.invokestatic 299, 3) := by decide +kernel
theorem dX5_as_52 : decode cX5_as 52 = .ok (.ifCond .eq 7, 3) := by decide +kernel
theorem dX5_as_55 : decode cX5_as 55 = .ok (.iload_n 3, 1) := by decide +kernel
theorem dX5_as_56 : decode cX5_as 56 = .ok (.goto 10, 3) := by decide +kernel
theorem dX5_as_59 : decode cX5_as 59 = .ok (.aload_n 0, 1) := by decide +kernel
theorem dX5_as_60 : decode cX5_as 60 = .ok (.ldc_w 302, 3) := by decide +kernel
theorem dX5_as_63 : decode cX5_as 63 = .ok (.invokevirtual 66, 3) := by decide +kernel
theorem dX5_as_66 : decode cX5_as 66 = .ok (.ireturn, 1) := by decide +kernel
theorem dX5_isSheet_0 : decode cX5_isSheet 0 = .ok (.iload_n 0, 1) := by decide +kernel
theorem dX5_isSheet_1 : decode cX5_isSheet 1 = .ok (.iconst 0, 1) := by decide +kernel
theorem dX5_isSheet_2 : decode cX5_isSheet 2 = .ok (.iconst 3, 1) := by decide +kernel
theorem dX5_isSheet_3 : decode cX5_isSheet 3 = .ok (.invokestatic 70, 3) := by decide +kernel
theorem dX5_isSheet_6 : decode cX5_isSheet 6 = .ok (.ireturn, 1) := by decide +kernel
theorem dX5_cutTo_0 : decode cX5_cutTo 0 = .ok (.iload_n 1, 1) := by decide +kernel
theorem dX5_cutTo_1 : decode cX5_cutTo 1 = .ok (.bipush 8, 2) := by decide +kernel
theorem dX5_cutTo_3 : decode cX5_cutTo 3 = .ok (.if_icmp .ne 8, 3) := by decide +kernel
theorem dX5_cutTo_6 : decode cX5_cutTo 6 = .ok (.iload_n 0, 1) := by decide +kernel
theorem dX5_cutTo_7 : decode cX5_cutTo 7 = .ok (.i2b, 1) := by decide +kernel
theorem dX5_cutTo_8 : decode cX5_cutTo 8 = .ok (.goto 15, 3) := by decide +kernel
theorem dX5_cutTo_11 : decode cX5_cutTo 11 = .ok (.iload_n 1, 1) := by decide +kernel
theorem dX5_cutTo_12 : decode cX5_cutTo 12 = .ok (.bipush 16, 2) := by decide +kernel
theorem dX5_cutTo_14 : decode cX5_cutTo 14 = .ok (.if_icmp .ne 8, 3) := by decide +kernel
theorem dX5_cutTo_17 : decode cX5_cutTo 17 = .ok (.iload_n 0, 1) := by decide +kernel
theorem dX5_cutTo_18 : decode cX5_cutTo 18 = .ok (.i2s, 1) := by decide +kernel
theorem dX5_cutTo_19 : decode cX5_cutTo 19 = .ok (.goto 4, 3) := by decide +kernel
theorem dX5_cutTo_22 : decode cX5_cutTo 22 = .ok (.iload_n 0, 1) := by decide +kernel
theorem dX5_cutTo_23 : decode cX5_cutTo 23 = .ok (.ireturn, 1) := by decide +kernel
theorem dX5_sheet_0 : decode cX5_sheet 0 = .ok (.iload_n 1, 1) := by decide +kernel
theorem dX5_sheet_1 : decode cX5_sheet 1 = .ok (.invokestatic 203, 3) := by decide +kernel
theorem dX5_sheet_4 : decode cX5_sheet 4 = .ok (.ifCond .eq 25, 3) := by decide +kernel
theorem dX5_sheet_7 : decode cX5_sheet 7 = .ok (.iload_n 2, 1) := by decide +kernel
theorem dX5_sheet_8 : decode cX5_sheet 8 = .ok (.ifCond .eq 28, 3) := by decide +kernel
theorem dX5_sheet_11 : decode cX5_sheet 11 = .ok (.iload_n 2, 1) := by decide +kernel
theorem dX5_sheet_12 : decode cX5_sheet 12 = .ok (.bipush 8, 2) := by decide +kernel
theorem dX5_sheet_14 : decode cX5_sheet 14 = .ok (.if_icmp .eq 22, 3) := by decide +kernel
theorem dX5_sheet_17 : decode cX5_sheet 17 = .ok (.iload_n 2, 1) := by decide +kernel
theorem dX5_sheet_18 : decode cX5_sheet 18 = .ok (.bipush 16, 2) := by decide +kernel
theorem dX5_sheet_20 : decode cX5_sheet 20 = .ok (.if_icmp .eq 16, 3) := by decide +kernel
theorem dX5_sheet_23 : decode cX5_sheet 23 = .ok (.iload_n 2, 1) := by decide +kernel
theorem dX5_sheet_24 : decode cX5_sheet 24 = .ok (.bipush 32, 2) := by decide +kernel
theorem dX5_sheet_26 : decode cX5_sheet 26 = .ok (.if_icmp .eq 10, 3) := by decide +kernel
theorem dX5_sheet_29 : decode cX5_sheet 29 = .ok (.aload_n 0, 1) := by decide +kernel
theorem dX5_sheet_30 : decode cX5_sheet 30 = .ok (.ldc 60, 2) := by decide +kernel
theorem dX5_sheet_32 : decode cX5_sheet 32 = .ok (.invokevirtual 66, 3) := by decide +kernel
theorem dX5_sheet_35 : decode cX5_sheet 35 = .ok (.ireturn, 1) := by decide +kernel
theorem dX5_sheet_36 : decode cX5_sheet 36 = .ok (.iload_n 3, 1) := by decide +kernel
theorem dX5_sheet_37 : decode cX5_sheet 37 = .ok (.ifCond .ge 11, 3) := by decide +kernel
theorem dX5_sheet_40 : decode cX5_sheet 40 = .ok (.aload_n 0, 1) := by decide +kernel
theorem dX5_sheet_41 : decode cX5_sheet 41 = .ok (.ldc_w 303, 3) := by decide +kernel
theorem dX5_sheet_44 : decode cX5_sheet 44 = .ok (.invokevirtual 66, 3) := by decide +kernel
theorem dX5_sheet_47 : decode cX5_sheet 47 = .ok (.ireturn, 1) := by decide +kernel
theorem dX5_sheet_48 : decode cX5_sheet 48 = .ok (.iload_n 3, 1) := by decide +kernel
theorem dX5_sheet_49 : decode cX5_sheet 49 = .ok (.bipush 40, 2) := by decide +kernel
theorem dX5_sheet_51 : decode cX5_sheet 51 = .ok (.if_icmp .le 10, 3) := by decide +kernel
theorem dX5_sheet_54 : decode cX5_sheet 54 = .ok (.aload_n 0, 1) := by decide +kernel
theorem dX5_sheet_55 : decode cX5_sheet 55 = .ok (.ldc 60, 2) := by decide +kernel
theorem dX5_sheet_57 : decode cX5_sheet 57 = .ok (.invokevirtual 66, 3) := by decide +kernel
theorem dX5_sheet_60 : decode cX5_sheet 60 = .ok (.ireturn, 1) := by decide +kernel
theorem dX5_sheet_61 : decode cX5_sheet 61 = .ok (.aload_n 0, 1) := by decide +kernel
theorem dX5_sheet_62 : decode cX5_sheet 62 = .ok (.getfield 48, 3) := by decide +kernel
theorem dX5_sheet_65 : decode cX5_sheet 65 = .ok (.iload_n 1, 1) := by decide +kernel
theorem dX5_sheet_66 : decode cX5_sheet 66 = .ok (.iload_n 2, 1) := by decide +kernel
theorem dX5_sheet_67 : decode cX5_sheet 67 = .ok (.iastore, 1) := by decide +kernel
theorem dX5_sheet_68 : decode cX5_sheet 68 = .ok (.aload_n 0, 1) := by decide +kernel
theorem dX5_sheet_69 : decode cX5_sheet 69 = .ok (.getfield 51, 3) := by decide +kernel
theorem dX5_sheet_72 : decode cX5_sheet 72 = .ok (.iload_n 1, 1) := by decide +kernel
theorem dX5_sheet_73 : decode cX5_sheet 73 = .ok (.iload_n 2, 1) := by decide +kernel
theorem dX5_sheet_74 : decode cX5_sheet 74 = .ok (.ifCond .ne 7, 3) := by decide +kernel
theorem dX5_sheet_77 : decode cX5_sheet 77 = .ok (.iconst 0, 1) := by decide +kernel
theorem dX5_sheet_78 : decode cX5_sheet 78 = .ok (.goto 4, 3) := by decide +kernel
theorem dX5_sheet_81 : decode cX5_sheet 81 = .ok (.iload_n 3, 1) := by decide +kernel
theorem dX5_sheet_82 : decode cX5_sheet 82 = .ok (.iastore, 1) := by decide +kernel
theorem dX5_sheet_83 : decode cX5_sheet 83 = .ok (.iconst 0, 1) := by decide +kernel
theorem dX5_sheet_84 : decode cX5_sheet 84 = .ok (.istore 4, 2) := by decide +kernel
theorem dX5_sheet_86 : decode cX5_sheet 86 = .ok (.iload 4, 2) := by decide +kernel
theorem dX5_sheet_88 : decode cX5_sheet 88 = .ok (.bipush 40, 2) := by decide +kernel
theorem dX5_sheet_90 : decode cX5_sheet 90 = .ok (.if_icmp .ge 22, 3) := by decide +kernel
theorem dX5_sheet_93 : decode cX5_sheet 93 = .ok (.aload_n 0, 1) := by decide +kernel
theorem dX5_sheet_94 : decode cX5_sheet 94 = .ok (.getfield 54, 3) := by decide +kernel
theorem dX5_sheet_97 : decode cX5_sheet 97 = .ok (.bipush 40, 2) := by decide +kernel
theorem dX5_sheet_99 : decode cX5_sheet 99 = .ok (.iload_n 1, 1) := by decide +kernel
theorem dX5_sheet_100 : decode cX5_sheet 100 = .ok (.imul, 1) := by decide +kernel
theorem dX5_sheet_101 : decode cX5_sheet 101 = .ok (.iload 4, 2) := by decide +kernel
theorem dX5_sheet_103 : decode cX5_sheet 103 = .ok (.iadd, 1) := by decide +kernel
theorem dX5_sheet_104 : decode cX5_sheet 104 = .ok (.iconst 0, 1) := by decide +kernel
theorem dX5_sheet_105 : decode cX5_sheet 105 = .ok (.iastore, 1) := by decide +kernel
theorem dX5_sheet_106 : decode cX5_sheet 106 = .ok (.iinc 4 1, 3) := by decide +kernel
theorem dX5_sheet_109 : decode cX5_sheet 109 = .ok (.goto (-23), 3) := by decide +kernel
theorem dX5_sheet_112 : decode cX5_sheet 112 = .ok (.aload_n 0, 1) := by decide +kernel
theorem dX5_sheet_113 : decode cX5_sheet 113 = .ok (.getfield 51, 3) := by decide +kernel
theorem dX5_sheet_116 : decode cX5_sheet 116 = .ok (.iload_n 1, 1) := by decide +kernel
theorem dX5_sheet_117 : decode cX5_sheet 117 = .ok (.iaload, 1) := by decide +kernel
theorem dX5_sheet_118 : decode cX5_sheet 118 = .ok (.ireturn, 1) := by decide +kernel
theorem dX5_write_0 : decode cX5_write 0 = .ok (.iload_n 1, 1) := by decide +kernel
theorem dX5_write_1 : decode cX5_write 1 = .ok (.invokestatic 203, 3) := by decide +kernel
theorem dX5_write_4 : decode cX5_write 4 = .ok (.ifCond .ne 10, 3) := by decide +kernel
theorem dX5_write_7 : decode cX5_write 7 = .ok (.aload_n 0, 1) := by decide +kernel
theorem dX5_write_8 : decode cX5_write 8 = .ok (.ldc 60, 2) := by decide +kernel
