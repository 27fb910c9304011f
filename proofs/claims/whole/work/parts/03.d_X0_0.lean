theorem dX0_init_0 : decode cX0_init 0 = .ok (.aload_n 0, 1) := by decide +kernel
theorem dX0_init_1 : decode cX0_init 1 = .ok (.invokespecial 1, 3) := by decide +kernel
theorem dX0_init_4 : decode cX0_init 4 = .ok (.aload_n 0, 1) := by decide +kernel
theorem dX0_init_5 : decode cX0_init 5 = .ok (.bipush 16, 2) := by decide +kernel
theorem dX0_init_7 : decode cX0_init 7 = .ok (.newarray .int, 2) := by decide +kernel
theorem dX0_init_9 : decode cX0_init 9 = .ok (.putfield 9, 3) := by decide +kernel
theorem dX0_init_12 : decode cX0_init 12 = .ok (.aload_n 0, 1) := by decide +kernel
theorem dX0_init_13 : decode cX0_init 13 = .ok (.bipush 6, 2) := by decide +kernel
theorem dX0_init_15 : decode cX0_init 15 = .ok (.newarray .int, 2) := by decide +kernel
theorem dX0_init_17 : decode cX0_init 17 = .ok (.putfield 13, 3) := by decide +kernel
theorem dX0_init_20 : decode cX0_init 20 = .ok (.aload_n 0, 1) := by decide +kernel
theorem dX0_init_21 : decode cX0_init 21 = .ok (.sipush 200, 3) := by decide +kernel
theorem dX0_init_24 : decode cX0_init 24 = .ok (.putfield 16, 3) := by decide +kernel
theorem dX0_init_27 : decode cX0_init 27 = .ok (.aload_n 0, 1) := by decide +kernel
theorem dX0_init_28 : decode cX0_init 28 = .ok (.iconst 0, 1) := by decide +kernel
theorem dX0_init_29 : decode cX0_init 29 = .ok (.putfield 20, 3) := by decide +kernel
theorem dX0_init_32 : decode cX0_init 32 = .ok (.aload_n 0, 1) := by decide +kernel
theorem dX0_init_33 : decode cX0_init 33 = .ok (.iconst 0, 1) := by decide +kernel
theorem dX0_init_34 : decode cX0_init 34 = .ok (.putfield 23, 3) := by decide +kernel
theorem dX0_init_37 : decode cX0_init 37 = .ok (.aload_n 0, 1) := by decide +kernel
theorem dX0_init_38 : decode cX0_init 38 = .ok (.iconst 0, 1) := by decide +kernel
theorem dX0_init_39 : decode cX0_init 39 = .ok (.putfield 26, 3) := by decide +kernel
theorem dX0_init_42 : decode cX0_init 42 = .ok (.aload_n 0, 1) := by decide +kernel
theorem dX0_init_43 : decode cX0_init 43 = .ok (.iconst 0, 1) := by decide +kernel
theorem dX0_init_44 : decode cX0_init 44 = .ok (.putfield 29, 3) := by decide +kernel
theorem dX0_init_47 : decode cX0_init 47 = .ok (.aload_n 0, 1) := by decide +kernel
theorem dX0_init_48 : decode cX0_init 48 = .ok (.bipush 8, 2) := by decide +kernel
theorem dX0_init_50 : decode cX0_init 50 = .ok (.newarray .int, 2) := by decide +kernel
theorem dX0_init_52 : decode cX0_init 52 = .ok (.putfield 32, 3) := by decide +kernel
theorem dX0_init_55 : decode cX0_init 55 = .ok (.aload_n 0, 1) := by decide +kernel
theorem dX0_init_56 : decode cX0_init 56 = .ok (.bipush 8, 2) := by decide +kernel
theorem dX0_init_58 : decode cX0_init 58 = .ok (.newarray .int, 2) := by decide +kernel
theorem dX0_init_60 : decode cX0_init 60 = .ok (.putfield 35, 3) := by decide +kernel
theorem dX0_init_63 : decode cX0_init 63 = .ok (.aload_n 0, 1) := by decide +kernel
theorem dX0_init_64 : decode cX0_init 64 = .ok (.bipush 8, 2) := by decide +kernel
theorem dX0_init_66 : decode cX0_init 66 = .ok (.newarray .int, 2) := by decide +kernel
theorem dX0_init_68 : decode cX0_init 68 = .ok (.putfield 38, 3) := by decide +kernel
theorem dX0_init_71 : decode cX0_init 71 = .ok (.aload_n 0, 1) := by decide +kernel
theorem dX0_init_72 : decode cX0_init 72 = .ok (.bipush 8, 2) := by decide +kernel
theorem dX0_init_74 : decode cX0_init 74 = .ok (.newarray .int, 2) := by decide +kernel
theorem dX0_init_76 : decode cX0_init 76 = .ok (.putfield 41, 3) := by decide +kernel
theorem dX0_init_79 : decode cX0_init 79 = .ok (.aload_n 0, 1) := by decide +kernel
theorem dX0_init_80 : decode cX0_init 80 = .ok (.bipush 8, 2) := by decide +kernel
theorem dX0_init_82 : decode cX0_init 82 = .ok (.newarray .int, 2) := by decide +kernel
theorem dX0_init_84 : decode cX0_init 84 = .ok (.putfield 44, 3) := by decide +kernel
theorem dX0_init_87 : decode cX0_init 87 = .ok (.aload_n 0, 1) := by decide +kernel
theorem dX0_init_88 : decode cX0_init 88 = .ok (.bipush 8, 2) := by decide +kernel
theorem dX0_init_90 : decode cX0_init 90 = .ok (.newarray .int, 2) := by decide +kernel
theorem dX0_init_92 : decode cX0_init 92 = .ok (.putfield 47, 3) := by decide +kernel
theorem dX0_init_95 : decode cX0_init 95 = .ok (.aload_n 0, 1) := by decide +kernel
theorem dX0_init_96 : decode cX0_init 96 = .ok (.iconst 1, 1) := by decide +kernel
theorem dX0_init_97 : decode cX0_init 97 = .ok (.putfield 50, 3) := by decide +kernel
theorem dX0_init_100 : decode cX0_init 100 = .ok (.aload_n 0, 1) := by decide +kernel
theorem dX0_init_101 : decode cX0_init 101 = .ok (.bipush 10, 2) := by decide +kernel
theorem dX0_init_103 : decode cX0_init 103 = .ok (.newarray .int, 2) := by decide +kernel
theorem dX0_init_105 : decode cX0_init 105 = .ok (.putfield 53, 3) := by decide +kernel
theorem dX0_init_108 : decode cX0_init 108 = .ok (.aload_n 0, 1) := by decide +kernel
theorem dX0_init_109 : decode cX0_init 109 = .ok (.getfield 9, 3) := by decide +kernel
theorem dX0_init_112 : decode cX0_init 112 = .ok (.bipush 20, 2) := by decide +kernel
theorem dX0_init_114 : decode cX0_init 114 = .ok (.invokestatic 56, 3) := by decide +kernel
theorem dX0_init_117 : decode cX0_init 117 = .ok (.aload_n 0, 1) := by decide +kernel
theorem dX0_init_118 : decode cX0_init 118 = .ok (.getfield 13, 3) := by decide +kernel
theorem dX0_init_121 : decode cX0_init 121 = .ok (.bipush 26, 2) := by decide +kernel
theorem dX0_init_123 : decode cX0_init 123 = .ok (.invokestatic 56, 3) := by decide +kernel
theorem dX0_init_126 : decode cX0_init 126 = .ok (.aload_n 0, 1) := by decide +kernel
theorem dX0_init_127 : decode cX0_init 127 = .ok (.getfield 53, 3) := by decide +kernel
theorem dX0_init_130 : decode cX0_init 130 = .ok (.iconst (-1), 1) := by decide +kernel
theorem dX0_init_131 : decode cX0_init 131 = .ok (.invokestatic 56, 3) := by decide +kernel
theorem dX0_init_134 : decode cX0_init 134 = .ok (.return_, 1) := by decide +kernel
theorem dX0_become_0 : decode cX0_become 0 = .ok (.aload_n 1, 1) := by decide +kernel
theorem dX0_become_1 : decode cX0_become 1 = .ok (.getfield 9, 3) := by decide +kernel
theorem dX0_become_4 : decode cX0_become 4 = .ok (.iconst 0, 1) := by decide +kernel
theorem dX0_become_5 : decode cX0_become 5 = .ok (.aload_n 0, 1) := by decide +kernel
theorem dX0_become_6 : decode cX0_become 6 = .ok (.getfield 9, 3) := by decide +kernel
theorem dX0_become_9 : decode cX0_become 9 = .ok (.iconst 0, 1) := by decide +kernel
theorem dX0_become_10 : decode cX0_become 10 = .ok (.bipush 16, 2) := by decide +kernel
theorem dX0_become_12 : decode cX0_become 12 = .ok (.invokestatic 62, 3) := by decide +kernel
theorem dX0_become_15 : decode cX0_become 15 = .ok (.aload_n 1, 1) := by decide +kernel
theorem dX0_become_16 : decode cX0_become 16 = .ok (.getfield 13, 3) := by decide +kernel
theorem dX0_become_19 : decode cX0_become 19 = .ok (.iconst 0, 1) := by decide +kernel
theorem dX0_become_20 : decode cX0_become 20 = .ok (.aload_n 0, 1) := by decide +kernel
theorem dX0_become_21 : decode cX0_become 21 = .ok (.getfield 13, 3) := by decide +kernel
theorem dX0_become_24 : decode cX0_become 24 = .ok (.iconst 0, 1) := by decide +kernel
theorem dX0_become_25 : decode cX0_become 25 = .ok (.bipush 6, 2) := by decide +kernel
theorem dX0_become_27 : decode cX0_become 27 = .ok (.invokestatic 62, 3) := by decide +kernel
theorem dX0_become_30 : decode cX0_become 30 = .ok (.aload_n 0, 1) := by decide +kernel
theorem dX0_become_31 : decode cX0_become 31 = .ok (.aload_n 1, 1) := by decide +kernel
theorem dX0_become_32 : decode cX0_become 32 = .ok (.getfield 16, 3) := by decide +kernel
theorem dX0_become_35 : decode cX0_become 35 = .ok (.putfield 16, 3) := by decide +kernel
theorem dX0_become_38 : decode cX0_become 38 = .ok (.aload_n 0, 1) := by decide +kernel
theorem dX0_become_39 : decode cX0_become 39 = .ok (.aload_n 1, 1) := by decide +kernel
theorem dX0_become_40 : decode cX0_become 40 = .ok (.getfield 20, 3) := by decide +kernel
theorem dX0_become_43 : decode cX0_become 43 = .ok (.putfield 20, 3) := by decide +kernel
theorem dX0_become_46 : decode cX0_become 46 = .ok (.aload_n 0, 1) := by decide +kernel
theorem dX0_become_47 : decode cX0_become 47 = .ok (.aload_n 1, 1) := by decide +kernel
theorem dX0_become_48 : decode cX0_become 48 = .ok (.getfield 23, 3) := by decide +kernel
theorem dX0_become_51 : decode cX0_become 51 = .ok (.putfield 23, 3) := by decide +kernel
theorem dX0_become_54 : decode cX0_become 54 = .ok (.aload_n 0, 1) := by decide +kernel
theorem dX0_become_55 : decode cX0_become 55 = .ok (.aload_n 1, 1) := by decide +kernel
theorem dX0_become_56 : decode cX0_become 56 = .ok (.getfield 26, 3) := by decide +kernel
theorem dX0_become_59 : decode cX0_become 59 = .ok (.putfield 26, 3) := by decide +kernel
theorem dX0_become_62 : decode cX0_become 62 = .ok (.aload_n 0, 1) := by decide +kernel
theorem dX0_become_63 : decode cX0_become 63 = .ok (.aload_n 1, 1) := by decide +kernel
theorem dX0_become_64 : decode cX0_become 64 = .ok (.getfield 29, 3) := by decide +kernel
theorem dX0_become_67 : decode cX0_become 67 = .ok (.putfield 29, 3) := by decide +kernel
theorem dX0_become_70 : decode cX0_become 70 = .ok (.aload_n 1, 1) := by decide +kernel
theorem dX0_become_71 : decode cX0_become 71 = .ok (.getfield 32, 3) := by decide +kernel
theorem dX0_become_74 : decode cX0_become 74 = .ok (.iconst 0, 1) := by decide +kernel
theorem dX0_become_75 : decode cX0_become 75 = .ok (.aload_n 0, 1) := by decide +kernel
theorem dX0_become_76 : decode cX0_become 76 = .ok (.getfield 32, 3) := by decide +kernel
theorem dX0_become_79 : decode cX0_become 79 = .ok (.iconst 0, 1) := by decide +kernel
theorem dX0_become_80 : decode cX0_become 80 = .ok (.bipush 8, 2) := by decide +kernel
theorem dX0_become_82 : decode cX0_become 82 = .ok (.invokestatic 62, 3) := by decide +kernel
theorem dX0_become_85 : decode cX0_become 85 = .ok (.aload_n 1, 1) := by decide +kernel
theorem dX0_become_86 : decode cX0_become 86 = .ok (.getfield 35, 3) := by decide +kernel
theorem dX0_become_89 : decode cX0_become 89 = .ok (.iconst 0, 1) := by decide +kernel
theorem dX0_become_90 : decode cX0_become 90 = .ok (.aload_n 0, 1) := by decide +kernel
theorem dX0_become_91 : decode cX0_become 91 = .ok (.getfield 35, 3) := by decide +kernel
theorem dX0_become_94 : decode cX0_become 94 = .ok (.iconst 0, 1) := by decide +kernel
theorem dX0_become_95 : decode cX0_become 95 = .ok (.bipush 8, 2) := by decide +kernel
theorem dX0_become_97 : decode cX0_become 97 = .ok (.invokestatic 62, 3) := by decide +kernel
theorem dX0_become_100 : decode cX0_become 100 = .ok (.aload_n 1, 1) := by decide +kernel
theorem dX0_become_101 : decode cX0_become 101 = .ok (.getfield 38, 3) := by decide +kernel
theorem dX0_become_104 : decode cX0_become 104 = .ok (.iconst 0, 1) := by decide +kernel
theorem dX0_become_105 : decode cX0_become 105 = .ok (.aload_n 0, 1) := by decide +kernel
theorem dX0_become_106 : decode cX0_become 106 = .ok (.getfield 38, 3) := by decide +kernel
theorem dX0_become_109 : decode cX0_become 109 = .ok (.iconst 0, 1) := by decide +kernel
theorem dX0_become_110 : decode cX0_become 110 = .ok (.bipush 8, 2) := by decide +kernel
theorem dX0_become_112 : decode cX0_become 112 = .ok (.invokestatic 62, 3) := by decide +kernel
theorem dX0_become_115 : decode cX0_become 115 = .ok (.aload_n 1, 1) := by decide +kernel
theorem dX0_become_116 : decode cX0_become 116 = .ok (.getfield 41, 3) := by decide +kernel
theorem dX0_become_119 : decode cX0_become 119 = .ok (.iconst 0, 1) := by decide +kernel
theorem dX0_become_120 : decode cX0_become 120 = .ok (.aload_n 0, 1) := by decide +kernel
theorem dX0_become_121 : decode cX0_become 121 = .ok (.getfield 41, 3) := by decide +kernel
theorem dX0_become_124 : decode cX0_become 124 = .ok (.iconst 0, 1) := by decide +kernel
theorem dX0_become_125 : decode cX0_become 125 = .ok (.bipush 8, 2) := by decide +kernel
theorem dX0_become_127 : decode cX0_become 127 = .ok (.invokestatic 62, 3) := by decide +kernel
theorem dX0_become_130 : decode cX0_become 130 = .ok (.aload_n 1, 1) := by decide +kernel
theorem dX0_become_131 : decode cX0_become 131 = .ok (.getfield 44, 3) := by decide +kernel
theorem dX0_become_134 : decode cX0_become 134 = .ok (.iconst 0, 1) := by decide +kernel
theorem dX0_become_135 : decode cX0_become 135 = .ok (.aload_n 0, 1) := by decide +kernel
theorem dX0_become_136 : decode cX0_become 136 = .ok (.getfield 44, 3) := by decide +kernel
theorem dX0_become_139 : decode cX0_become 139 = .ok (.iconst 0, 1) := by decide +kernel
theorem dX0_become_140 : decode cX0_become 140 = .ok (.bipush 8, 2) := by decide +kernel
theorem dX0_become_142 : decode cX0_become 142 = .ok (.invokestatic 62, 3) := by decide +kernel
theorem dX0_become_145 : decode cX0_become 145 = .ok (.aload_n 1, 1) := by decide +kernel
theorem dX0_become_146 : decode cX0_become 146 = .ok (.getfield 47, 3) := by decide +kernel
theorem dX0_become_149 : decode cX0_become 149 = .ok (.iconst 0, 1) := by decide +kernel
theorem dX0_become_150 : decode cX0_become 150 = .ok (.aload_n 0, 1) := by decide +kernel
theorem dX0_become_151 : decode cX0_become 151 = .ok (.getfield 47, 3) := by decide +kernel
theorem dX0_become_154 : decode cX0_become 154 = .ok (.iconst 0, 1) := by decide +kernel
theorem dX0_become_155 : decode cX0_become 155 = .ok (.bipush 8, 2) := by decide +kernel
theorem dX0_become_157 : decode cX0_become 157 = .ok (.invokestatic 62, 3) := by decide +kernel
theorem dX0_become_160 : decode cX0_become 160 = .ok (.aload_n 0, 1) := by decide +kernel
theorem dX0_become_161 : decode cX0_become 161 = .ok (.aload_n 1, 1) := by decide +kernel
theorem dX0_become_162 : decode cX0_become 162 = .ok (.getfield 50, 3) := by decide +kernel
theorem dX0_become_165 : decode cX0_become 165 = .ok (.putfield 50, 3) := by decide +kernel
theorem dX0_become_168 : decode cX0_become 168 = .ok (.aload_n 1, 1) := by decide +kernel
theorem dX0_become_169 : decode cX0_become 169 = .ok (.getfield 53, 3) := by decide +kernel
theorem dX0_become_172 : decode cX0_become 172 = .ok (.iconst 0, 1) := by decide +kernel
theorem dX0_become_173 : decode cX0_become 173 = .ok (.aload_n 0, 1) := by decide +kernel
theorem dX0_become_174 : decode cX0_become 174 = .ok (.getfield 53, 3) := by decide +kernel
theorem dX0_become_177 : decode cX0_become 177 = .ok (.iconst 0, 1) := by decide +kernel
theorem dX0_become_178 : decode cX0_become 178 = .ok (.bipush 10, 2) := by decide +kernel
theorem dX0_become_180 : decode cX0_become 180 = .ok (.invokestatic 62, 3) := by decide +kernel
theorem dX0_become_183 : decode cX0_become 183 = .ok (.return_, 1) := by decide +kernel
theorem dX0_isFull_0 : decode cX0_isFull 0 = .ok (.aload_n 0, 1) := by decide +kernel
theorem dX0_isFull_1 : decode cX0_isFull 1 = .ok (.getfield 29, 3) := by decide +kernel
theorem dX0_isFull_4 : decode cX0_isFull 4 = .ok (.bipush 8, 2) := by decide +kernel
theorem dX0_isFull_6 : decode cX0_isFull 6 = .ok (.if_icmp .lt 7, 3) := by decide +kernel
theorem dX0_isFull_9 : decode cX0_isFull 9 = .ok (.iconst 1, 1) := by decide +kernel
theorem dX0_isFull_10 : decode cX0_isFull 10 = .ok (.goto 4, 3) := by decide +kernel
theorem dX0_isFull_13 : decode cX0_isFull 13 = .ok (.iconst 0, 1) := by decide +kernel
theorem dX0_isFull_14 : decode cX0_isFull 14 = .ok (.ireturn, 1) := by decide +kernel
theorem dX0_add_0 : decode cX0_add 0 = .ok (.aload_n 0, 1) := by decide +kernel
theorem dX0_add_1 : decode cX0_add 1 = .ok (.invokevirtual 68, 3) := by decide +kernel
theorem dX0_add_4 : decode cX0_add 4 = .ok (.ifCond .eq 5, 3) := by decide +kernel
theorem dX0_add_7 : decode cX0_add 7 = .ok (.iconst (-1), 1) := by decide +kernel
theorem dX0_add_8 : decode cX0_add 8 = .ok (.ireturn, 1) := by decide +kernel
theorem dX0_add_9 : decode cX0_add 9 = .ok (.aload_n 0, 1) := by decide +kernel
theorem dX0_add_10 : decode cX0_add 10 = .ok (.getfield 32, 3) := by decide +kernel
theorem dX0_add_13 : decode cX0_add 13 = .ok (.aload_n 0, 1) := by decide +kernel
theorem dX0_add_14 : decode cX0_add 14 = .ok (.getfield 29, 3) := by decide +kernel
theorem dX0_add_17 : decode cX0_add 17 = .ok (.iload_n 1, 1) := by decide +kernel
theorem dX0_add_18 : decode cX0_add 18 = .ok (.iastore, 1) := by decide +kernel
theorem dX0_add_19 : decode cX0_add 19 = .ok (.aload_n 0, 1) := by decide +kernel
theorem dX0_add_20 : decode cX0_add 20 = .ok (.getfield 35, 3) := by decide +kernel
theorem dX0_add_23 : decode cX0_add 23 = .ok (.aload_n 0, 1) := by decide +kernel
theorem dX0_add_24 : decode cX0_add 24 = .ok (.getfield 29, 3) := by decide +kernel
theorem dX0_add_27 : decode cX0_add 27 = .ok (.iload_n 2, 1) := by decide +kernel
theorem dX0_add_28 : decode cX0_add 28 = .ok (.iastore, 1) := by decide +kernel
theorem dX0_add_29 : decode cX0_add 29 = .ok (.aload_n 0, 1) := by decide +kernel
theorem dX0_add_30 : decode cX0_add 30 = .ok (.getfield 38, 3) := by decide +kernel
theorem dX0_add_33 : decode cX0_add 33 = .ok (.aload_n 0, 1) := by decide +kernel
theorem dX0_add_34 : decode cX0_add 34 = .ok (.getfield 29, 3) := by decide +kernel
theorem dX0_add_37 : decode cX0_add 37 = .ok (.bipush 10, 2) := by decide +kernel
theorem dX0_add_39 : decode cX0_add 39 = .ok (.iastore, 1) := by decide +kernel
theorem dX0_add_40 : decode cX0_add 40 = .ok (.aload_n 0, 1) := by decide +kernel
theorem dX0_add_41 : decode cX0_add 41 = .ok (.getfield 41, 3) := by decide +kernel
theorem dX0_add_44 : decode cX0_add 44 = .ok (.aload_n 0, 1) := by decide +kernel
theorem dX0_add_45 : decode cX0_add 45 = .ok (.getfield 29, 3) := by decide +kernel
theorem dX0_add_48 : decode cX0_add 48 = .ok (.iload_n 2, 1) := by decide +kernel
theorem dX0_add_49 : decode cX0_add 49 = .ok (.iastore, 1) := by decide +kernel
theorem dX0_add_50 : decode cX0_add 50 = .ok (.aload_n 0, 1) := by decide +kernel
theorem dX0_add_51 : decode cX0_add 51 = .ok (.getfield 44, 3) := by decide +kernel
theorem dX0_add_54 : decode cX0_add 54 = .ok (.aload_n 0, 1) := by decide +kernel
theorem dX0_add_55 : decode cX0_add 55 = .ok (.getfield 29, 3) := by decide +kernel
theorem dX0_add_58 : decode cX0_add 58 = .ok (.iconst 0, 1) := by decide +kernel
theorem dX0_add_59 : decode cX0_add 59 = .ok (.iastore, 1) := by decide +kernel
theorem dX0_add_60 : decode cX0_add 60 = .ok (.aload_n 0, 1) := by decide +kernel
theorem dX0_add_61 : decode cX0_add 61 = .ok (.getfield 47, 3) := by decide +kernel
theorem dX0_add_64 : decode cX0_add 64 = .ok (.aload_n 0, 1) := by decide +kernel
theorem dX0_add_65 : decode cX0_add 65 = .ok (.getfield 29, 3) := by decide +kernel
theorem dX0_add_68 : decode cX0_add 68 = .ok (.iconst 0, 1) := by decide +kernel
theorem dX0_add_69 : decode cX0_add 69 = .ok (.iastore, 1) := by decide +kernel
theorem dX0_add_70 : decode cX0_add 70 = .ok (.aload_n 0, 1) := by decide +kernel
theorem dX0_add_71 : decode cX0_add 71 = .ok (.dup, 1) := by decide +kernel
theorem dX0_add_72 : decode cX0_add 72 = .ok (.getfield 29, 3) := by decide +kernel
theorem dX0_add_75 : decode cX0_add 75 = .ok (.iconst 1, 1) := by decide +kernel
theorem dX0_add_76 : decode cX0_add 76 = .ok (.iadd, 1) := by decide +kernel
theorem dX0_add_77 : decode cX0_add 77 = .ok (.putfield 29, 3) := by decide +kernel
theorem dX0_add_80 : decode cX0_add 80 = .ok (.aload_n 0, 1) := by decide +kernel
theorem dX0_add_81 : decode cX0_add 81 = .ok (.getfield 29, 3) := by decide +kernel
theorem dX0_add_84 : decode cX0_add 84 = .ok (.iconst 1, 1) := by decide +kernel
theorem dX0_add_85 : decode cX0_add 85 = .ok (.isub, 1) := by decide +kernel
theorem dX0_add_86 : decode cX0_add 86 = .ok (.ireturn, 1) := by decide +kernel
theorem dX0_sendHome_0 : decode cX0_sendHome 0 = .ok (.iconst 0, 1) := by decide +kernel
theorem dX0_sendHome_1 : decode cX0_sendHome 1 = .ok (.istore_n 2, 1) := by decide +kernel
theorem dX0_sendHome_2 : decode cX0_sendHome 2 = .ok (.iload_n 2, 1) := by decide +kernel
theorem dX0_sendHome_3 : decode cX0_sendHome 3 = .ok (.aload_n 0, 1) := by decide +kernel
theorem dX0_sendHome_4 : decode cX0_sendHome 4 = .ok (.getfield 29, 3) := by decide +kernel
theorem dX0_sendHome_7 : decode cX0_sendHome 7 = .ok (.if_icmp .ge 25, 3) := by decide +kernel
theorem dX0_sendHome_10 : decode cX0_sendHome 10 = .ok (.iload_n 1, 1) := by decide +kernel
theorem dX0_sendHome_11 : decode cX0_sendHome 11 = .ok (.iload_n 2, 1) := by decide +kernel
theorem dX0_sendHome_12 : decode cX0_sendHome 12 = .ok (.ishr, 1) := by decide +kernel
theorem dX0_sendHome_13 : decode cX0_sendHome 13 = .ok (.iconst 1, 1) := by decide +kernel
theorem dX0_sendHome_14 : decode cX0_sendHome 14 = .ok (.iand, 1) := by decide +kernel
theorem dX0_sendHome_15 : decode cX0_sendHome 15 = .ok (.iconst 1, 1) := by decide +kernel
theorem dX0_sendHome_16 : decode cX0_sendHome 16 = .ok (.if_icmp .ne 10, 3) := by decide +kernel
theorem dX0_sendHome_19 : decode cX0_sendHome 19 = .ok (.aload_n 0, 1) := by decide +kernel
theorem dX0_sendHome_20 : decode cX0_sendHome 20 = .ok (.getfield 47, 3) := by decide +kernel
theorem dX0_sendHome_23 : decode cX0_sendHome 23 = .ok (.iload_n 2, 1) := by decide +kernel
theorem dX0_sendHome_24 : decode cX0_sendHome 24 = .ok (.iconst 1, 1) := by decide +kernel
theorem dX0_sendHome_25 : decode cX0_sendHome 25 = .ok (.iastore, 1) := by decide +kernel
theorem dX0_sendHome_26 : decode cX0_sendHome 26 = .ok (.iinc 2 1, 3) := by decide +kernel
theorem dX0_sendHome_29 : decode cX0_sendHome 29 = .ok (.goto (-27), 3) := by decide +kernel
theorem dX0_sendHome_32 : decode cX0_sendHome 32 = .ok (.return_, 1) := by decide +kernel
theorem dX0_trait_0 : decode cX0_trait 0 = .ok (.iload_n 1, 1) := by decide +kernel
theorem dX0_trait_1 : decode cX0_trait 1 = .ok (.tableswitch 60 0 4 #[35, 40, 45, 50, 55], 35) := by decide +kernel
theorem dX0_trait_36 : decode cX0_trait 36 = .ok (.aload_n 0, 1) := by decide +kernel
theorem dX0_trait_37 : decode cX0_trait 37 = .ok (.getfield 32, 3) := by decide +kernel
theorem dX0_trait_40 : decode cX0_trait 40 = .ok (.areturn, 1) := by decide +kernel
theorem dX0_trait_41 : decode cX0_trait 41 = .ok (.aload_n 0, 1) := by decide +kernel
theorem dX0_trait_42 : decode cX0_trait 42 = .ok (.getfield 35, 3) := by decide +kernel
theorem dX0_trait_45 : decode cX0_trait 45 = .ok (.areturn, 1) := by decide +kernel
theorem dX0_trait_46 : decode cX0_trait 46 = .ok (.aload_n 0, 1) := by decide +kernel
theorem dX0_trait_47 : decode cX0_trait 47 = .ok (.getfield 38, 3) := by decide +kernel
theorem dX0_trait_50 : decode cX0_trait 50 = .ok (.areturn, 1) := by decide +kernel
theorem dX0_trait_51 : decode cX0_trait 51 = .ok (.aload_n 0, 1) := by decide +kernel
theorem dX0_trait_52 : decode cX0_trait 52 = .ok (.getfield 41, 3) := by decide +kernel
theorem dX0_trait_55 : decode cX0_trait 55 = .ok (.areturn, 1) := by decide +kernel
theorem dX0_trait_56 : decode cX0_trait 56 = .ok (.aload_n 0, 1) := by decide +kernel
theorem dX0_trait_57 : decode cX0_trait 57 = .ok (.getfield 44, 3) := by decide +kernel
theorem dX0_trait_60 : decode cX0_trait 60 = .ok (.areturn, 1) := by decide +kernel
theorem dX0_trait_61 : decode cX0_trait 61 = .ok (.aload_n 0, 1) := by decide +kernel
theorem dX0_trait_62 : decode cX0_trait 62 = .ok (.getfield 47, 3) := by decide +kernel
theorem dX0_trait_65 : decode cX0_trait 65 = .ok (.areturn, 1) := by decide +kernel
theorem dX0_needs_0 : decode cX0_needs 0 = .ok (.aload_n 0, 1) := by decide +kernel
theorem dX0_needs_1 : decode cX0_needs 1 = .ok (.getfield 32, 3) := by decide +kernel
theorem dX0_needs_4 : decode cX0_needs 4 = .ok (.iload_n 1, 1) := by decide +kernel
theorem dX0_needs_5 : decode cX0_needs 5 = .ok (.iaload, 1) := by decide +kernel
theorem dX0_needs_6 : decode cX0_needs 6 = .ok (.aload_n 0, 1) := by decide +kernel
theorem dX0_needs_7 : decode cX0_needs 7 = .ok (.getfield 38, 3) := by decide +kernel
theorem dX0_needs_10 : decode cX0_needs 10 = .ok (.iload_n 1, 1) := by decide +kernel
theorem dX0_needs_11 : decode cX0_needs 11 = .ok (.iaload, 1) := by decide +kernel
theorem dX0_needs_12 : decode cX0_needs 12 = .ok (.aload_n 0, 1) := by decide +kernel
theorem dX0_needs_13 : decode cX0_needs 13 = .ok (.getfield 44, 3) := by decide +kernel
theorem dX0_needs_16 : decode cX0_needs 16 = .ok (.iload_n 1, 1) := by decide +kernel
theorem dX0_needs_17 : decode cX0_needs 17 = .ok (.iaload, 1) := by decide +kernel
theorem dX0_needs_18 : decode cX0_needs 18 = .ok (.aload_n 0, 1) := by decide +kernel
theorem dX0_needs_19 : decode cX0_needs 19 = .ok (.getfield 26, 3) := by decide +kernel
theorem dX0_needs_22 : decode cX0_needs 22 = .ok (.invokestatic 72, 3) := by decide +kernel
theorem dX0_needs_25 : decode cX0_needs 25 = .ok (.ireturn, 1) := by decide +kernel
theorem dX0_placeNow_0 : decode cX0_placeNow 0 = .ok (.aload_n 0, 1) := by decide +kernel
theorem dX0_placeNow_1 : decode cX0_placeNow 1 = .ok (.getfield 26, 3) := by decide +kernel
theorem dX0_placeNow_4 : decode cX0_placeNow 4 = .ok (.bipush 6, 2) := by decide +kernel
theorem dX0_placeNow_6 : decode cX0_placeNow 6 = .ok (.irem, 1) := by decide +kernel
theorem dX0_placeNow_7 : decode cX0_placeNow 7 = .ok (.ireturn, 1) := by decide +kernel
theorem dX0_measureNow_0 : decode cX0_measureNow 0 = .ok (.aload_n 0, 1) := by decide +kernel
theorem dX0_measureNow_1 : decode cX0_measureNow 1 = .ok (.getfield 23, 3) := by decide +kernel
theorem dX0_measureNow_4 : decode cX0_measureNow 4 = .ok (.iconst 1, 1) := by decide +kernel
theorem dX0_measureNow_5 : decode cX0_measureNow 5 = .ok (.if_icmp .ne 8, 3) := by decide +kernel
theorem dX0_measureNow_8 : decode cX0_measureNow 8 = .ok (.bipush 36, 2) := by decide +kernel
theorem dX0_measureNow_10 : decode cX0_measureNow 10 = .ok (.goto 12, 3) := by decide +kernel
theorem dX0_measureNow_13 : decode cX0_measureNow 13 = .ok (.aload_n 0, 1) := by decide +kernel
theorem dX0_measureNow_14 : decode cX0_measureNow 14 = .ok (.getfield 13, 3) := by decide +kernel
theorem dX0_measureNow_17 : decode cX0_measureNow 17 = .ok (.aload_n 0, 1) := by decide +kernel
theorem dX0_measureNow_18 : decode cX0_measureNow 18 = .ok (.invokevirtual 78, 3) := by decide +kernel
theorem dX0_measureNow_21 : decode cX0_measureNow 21 = .ok (.iaload, 1) := by decide +kernel
theorem dX0_measureNow_22 : decode cX0_measureNow 22 = .ok (.ireturn, 1) := by decide +kernel
theorem dX0_width_0 : decode cX0_width 0 = .ok (.iconst 0, 1) := by decide +kernel
theorem dX0_width_1 : decode cX0_width 1 = .ok (.aload_n 0, 1) := by decide +kernel
theorem dX0_width_2 : decode cX0_width 2 = .ok (.getfield 9, 3) := by decide +kernel
theorem dX0_width_5 : decode cX0_width 5 = .ok (.iload_n 1, 1) := by decide +kernel
theorem dX0_width_6 : decode cX0_width 6 = .ok (.iaload, 1) := by decide +kernel
theorem dX0_width_7 : decode cX0_width 7 = .ok (.iload_n 2, 1) := by decide +kernel
theorem dX0_width_8 : decode cX0_width 8 = .ok (.iadd, 1) := by decide +kernel
theorem dX0_width_9 : decode cX0_width 9 = .ok (.bipush 26, 2) := by decide +kernel
theorem dX0_width_11 : decode cX0_width 11 = .ok (.isub, 1) := by decide +kernel
theorem dX0_width_12 : decode cX0_width 12 = .ok (.invokestatic 82, 3) := by decide +kernel
theorem dX0_width_15 : decode cX0_width 15 = .ok (.ireturn, 1) := by decide +kernel
theorem dX0_reachable_0 : decode cX0_reachable 0 = .ok (.aload_n 0, 1) := by decide +kernel
theorem dX0_reachable_1 : decode cX0_reachable 1 = .ok (.iload_n 1, 1) := by decide +kernel
theorem dX0_reachable_2 : decode cX0_reachable 2 = .ok (.invokevirtual 88, 3) := by decide +kernel
theorem dX0_reachable_5 : decode cX0_reachable 5 = .ok (.istore_n 3, 1) := by decide +kernel
theorem dX0_reachable_6 : decode cX0_reachable 6 = .ok (.iconst 1, 1) := by decide +kernel
theorem dX0_reachable_7 : decode cX0_reachable 7 = .ok (.aload_n 0, 1) := by decide +kernel
theorem dX0_reachable_8 : decode cX0_reachable 8 = .ok (.getfield 35, 3) := by decide +kernel
theorem dX0_reachable_11 : decode cX0_reachable 11 = .ok (.iload_n 1, 1) := by decide +kernel
theorem dX0_reachable_12 : decode cX0_reachable 12 = .ok (.iaload, 1) := by decide +kernel
theorem dX0_reachable_13 : decode cX0_reachable 13 = .ok (.ishl, 1) := by decide +kernel
theorem dX0_reachable_14 : decode cX0_reachable 14 = .ok (.istore 4, 2) := by decide +kernel
theorem dX0_reachable_16 : decode cX0_reachable 16 = .ok (.aload_n 0, 1) := by decide +kernel
theorem dX0_reachable_17 : decode cX0_reachable 17 = .ok (.getfield 35, 3) := by decide +kernel
theorem dX0_reachable_20 : decode cX0_reachable 20 = .ok (.iload_n 1, 1) := by decide +kernel
theorem dX0_reachable_21 : decode cX0_reachable 21 = .ok (.iaload, 1) := by decide +kernel
theorem dX0_reachable_22 : decode cX0_reachable 22 = .ok (.iconst 1, 1) := by decide +kernel
theorem dX0_reachable_23 : decode cX0_reachable 23 = .ok (.iadd, 1) := by decide +kernel
theorem dX0_reachable_24 : decode cX0_reachable 24 = .ok (.istore 5, 2) := by decide +kernel
theorem dX0_reachable_26 : decode cX0_reachable 26 = .ok (.iload 5, 2) := by decide +kernel
theorem dX0_reachable_28 : decode cX0_reachable 28 = .ok (.bipush 16, 2) := by decide +kernel
theorem dX0_reachable_30 : decode cX0_reachable 30 = .ok (.if_icmp .ge 29, 3) := by decide +kernel
theorem dX0_reachable_33 : decode cX0_reachable 33 = .ok (.aload_n 0, 1) := by decide +kernel
theorem dX0_reachable_34 : decode cX0_reachable 34 = .ok (.iload 5, 2) := by decide +kernel
theorem dX0_reachable_36 : decode cX0_reachable 36 = .ok (.iload_n 2, 1) := by decide +kernel
theorem dX0_reachable_37 : decode cX0_reachable 37 = .ok (.invokevirtual 91, 3) := by decide +kernel
theorem dX0_reachable_40 : decode cX0_reachable 40 = .ok (.iload_n 3, 1) := by decide +kernel
theorem dX0_reachable_41 : decode cX0_reachable 41 = .ok (.if_icmp .lt 18, 3) := by decide +kernel
theorem dX0_reachable_44 : decode cX0_reachable 44 = .ok (.iload 4, 2) := by decide +kernel
theorem dX0_reachable_46 : decode cX0_reachable 46 = .ok (.iconst 1, 1) := by decide +kernel
theorem dX0_reachable_47 : decode cX0_reachable 47 = .ok (.iload 5, 2) := by decide +kernel
theorem dX0_reachable_49 : decode cX0_reachable 49 = .ok (.ishl, 1) := by decide +kernel
theorem dX0_reachable_50 : decode cX0_reachable 50 = .ok (.ior, 1) := by decide +kernel
theorem dX0_reachable_51 : decode cX0_reachable 51 = .ok (.istore 4, 2) := by decide +kernel
theorem dX0_reachable_53 : decode cX0_reachable 53 = .ok (.iinc 5 1, 3) := by decide +kernel
theorem dX0_reachable_56 : decode cX0_reachable 56 = .ok (.goto (-30), 3) := by decide +kernel
theorem dX0_reachable_59 : decode cX0_reachable 59 = .ok (.aload_n 0, 1) := by decide +kernel
theorem dX0_reachable_60 : decode cX0_reachable 60 = .ok (.getfield 35, 3) := by decide +kernel
theorem dX0_reachable_63 : decode cX0_reachable 63 = .ok (.iload_n 1, 1) := by decide +kernel
theorem dX0_reachable_64 : decode cX0_reachable 64 = .ok (.iaload, 1) := by decide +kernel
theorem dX0_reachable_65 : decode cX0_reachable 65 = .ok (.iconst 1, 1) := by decide +kernel
theorem dX0_reachable_66 : decode cX0_reachable 66 = .ok (.isub, 1) := by decide +kernel
theorem dX0_reachable_67 : decode cX0_reachable 67 = .ok (.istore 5, 2) := by decide +kernel
theorem dX0_reachable_69 : decode cX0_reachable 69 = .ok (.iload 5, 2) := by decide +kernel
theorem dX0_reachable_71 : decode cX0_reachable 71 = .ok (.ifCond .lt 29, 3) := by decide +kernel
theorem dX0_reachable_74 : decode cX0_reachable 74 = .ok (.aload_n 0, 1) := by decide +kernel
theorem dX0_reachable_75 : decode cX0_reachable 75 = .ok (.iload 5, 2) := by decide +kernel
theorem dX0_reachable_77 : decode cX0_reachable 77 = .ok (.iload_n 2, 1) := by decide +kernel
theorem dX0_reachable_78 : decode cX0_reachable 78 = .ok (.invokevirtual 91, 3) := by decide +kernel
theorem dX0_reachable_81 : decode cX0_reachable 81 = .ok (.iload_n 3, 1) := by decide +kernel
theorem dX0_reachable_82 : decode cX0_reachable 82 = .ok (.if_icmp .lt 18, 3) := by decide +kernel
theorem dX0_reachable_85 : decode cX0_reachable 85 = .ok (.iload 4, 2) := by decide +kernel
theorem dX0_reachable_87 : decode cX0_reachable 87 = .ok (.iconst 1, 1) := by decide +kernel
theorem dX0_reachable_88 : decode cX0_reachable 88 = .ok (.iload 5, 2) := by decide +kernel
theorem dX0_reachable_90 : decode cX0_reachable 90 = .ok (.ishl, 1) := by decide +kernel
theorem dX0_reachable_91 : decode cX0_reachable 91 = .ok (.ior, 1) := by decide +kernel
theorem dX0_reachable_92 : decode cX0_reachable 92 = .ok (.istore 4, 2) := by decide +kernel
theorem dX0_reachable_94 : decode cX0_reachable 94 = .ok (.iinc 5 (-1), 3) := by decide +kernel
theorem dX0_reachable_97 : decode cX0_reachable 97 = .ok (.goto (-28), 3) := by decide +kernel
theorem dX0_reachable_100 : decode cX0_reachable 100 = .ok (.iload 4, 2) := by decide +kernel
theorem dX0_reachable_102 : decode cX0_reachable 102 = .ok (.ireturn, 1) := by decide +kernel
theorem dX0_canReach_0 : decode cX0_canReach 0 = .ok (.aload_n 0, 1) := by decide +kernel
theorem dX0_canReach_1 : decode cX0_canReach 1 = .ok (.iload_n 1, 1) := by decide +kernel
theorem dX0_canReach_2 : decode cX0_canReach 2 = .ok (.iload_n 3, 1) := by decide +kernel
theorem dX0_canReach_3 : decode cX0_canReach 3 = .ok (.invokevirtual 94, 3) := by decide +kernel
theorem dX0_canReach_6 : decode cX0_canReach 6 = .ok (.iload_n 2, 1) := by decide +kernel
theorem dX0_canReach_7 : decode cX0_canReach 7 = .ok (.ishr, 1) := by decide +kernel
theorem dX0_canReach_8 : decode cX0_canReach 8 = .ok (.iconst 1, 1) := by decide +kernel
theorem dX0_canReach_9 : decode cX0_canReach 9 = .ok (.iand, 1) := by decide +kernel
theorem dX0_canReach_10 : decode cX0_canReach 10 = .ok (.iconst 1, 1) := by decide +kernel
theorem dX0_canReach_11 : decode cX0_canReach 11 = .ok (.if_icmp .ne 7, 3) := by decide +kernel
theorem dX0_canReach_14 : decode cX0_canReach 14 = .ok (.iconst 1, 1) := by decide +kernel
theorem dX0_canReach_15 : decode cX0_canReach 15 = .ok (.goto 4, 3) := by decide +kernel
theorem dX0_canReach_18 : decode cX0_canReach 18 = .ok (.iconst 0, 1) := by decide +kernel
theorem dX0_canReach_19 : decode cX0_canReach 19 = .ok (.ireturn, 1) := by decide +kernel
theorem dX0_measuresToAim_0 : decode cX0_measuresToAim 0 = .ok (.iconst 0, 1) := by decide +kernel
theorem dX0_measuresToAim_1 : decode cX0_measuresToAim 1 = .ok (.istore_n 2, 1) := by decide +kernel
theorem dX0_measuresToAim_2 : decode cX0_measuresToAim 2 = .ok (.bipush 16, 2) := by decide +kernel
theorem dX0_measuresToAim_4 : decode cX0_measuresToAim 4 = .ok (.istore_n 3, 1) := by decide +kernel
theorem dX0_measuresToAim_5 : decode cX0_measuresToAim 5 = .ok (.iload_n 3, 1) := by decide +kernel
theorem dX0_measuresToAim_6 : decode cX0_measuresToAim 6 = .ok (.bipush 36, 2) := by decide +kernel
theorem dX0_measuresToAim_8 : decode cX0_measuresToAim 8 = .ok (.if_icmp .gt 27, 3) := by decide +kernel
theorem dX0_measuresToAim_11 : decode cX0_measuresToAim 11 = .ok (.aload_n 0, 1) := by decide +kernel
theorem dX0_measuresToAim_12 : decode cX0_measuresToAim 12 = .ok (.iload_n 1, 1) := by decide +kernel
theorem dX0_measuresToAim_13 : decode cX0_measuresToAim 13 = .ok (.aload_n 0, 1) := by decide +kernel
theorem dX0_measuresToAim_14 : decode cX0_measuresToAim 14 = .ok (.getfield 41, 3) := by decide +kernel
theorem dX0_measuresToAim_17 : decode cX0_measuresToAim 17 = .ok (.iload_n 1, 1) := by decide +kernel
theorem dX0_measuresToAim_18 : decode cX0_measuresToAim 18 = .ok (.iaload, 1) := by decide +kernel
theorem dX0_measuresToAim_19 : decode cX0_measuresToAim 19 = .ok (.iload_n 3, 1) := by decide +kernel
theorem dX0_measuresToAim_20 : decode cX0_measuresToAim 20 = .ok (.invokevirtual 97, 3) := by decide +kernel
theorem dX0_measuresToAim_23 : decode cX0_measuresToAim 23 = .ok (.ifCond .eq 6, 3) := by decide +kernel
theorem dX0_measuresToAim_26 : decode cX0_measuresToAim 26 = .ok (.iinc 2 1, 3) := by decide +kernel
theorem dX0_measuresToAim_29 : decode cX0_measuresToAim 29 = .ok (.iinc 3 1, 3) := by decide +kernel
theorem dX0_measuresToAim_32 : decode cX0_measuresToAim 32 = .ok (.goto (-27), 3) := by decide +kernel
theorem dX0_measuresToAim_35 : decode cX0_measuresToAim 35 = .ok (.iload_n 2, 1) := by decide +kernel
theorem dX0_measuresToAim_36 : decode cX0_measuresToAim 36 = .ok (.ireturn, 1) := by decide +kernel
theorem dX0_passHours_0 : decode cX0_passHours 0 = .ok (.iconst 0, 1) := by decide +kernel
theorem dX0_passHours_1 : decode cX0_passHours 1 = .ok (.istore_n 2, 1) := by decide +kernel
theorem dX0_passHours_2 : decode cX0_passHours 2 = .ok (.iload_n 2, 1) := by decide +kernel
theorem dX0_passHours_3 : decode cX0_passHours 3 = .ok (.iload_n 1, 1) := by decide +kernel
theorem dX0_passHours_4 : decode cX0_passHours 4 = .ok (.if_icmp .ge 13, 3) := by decide +kernel
theorem dX0_passHours_7 : decode cX0_passHours 7 = .ok (.aload_n 0, 1) := by decide +kernel
theorem dX0_passHours_8 : decode cX0_passHours 8 = .ok (.invokevirtual 101, 3) := by decide +kernel
theorem dX0_passHours_11 : decode cX0_passHours 11 = .ok (.iinc 2 1, 3) := by decide +kernel
theorem dX0_passHours_14 : decode cX0_passHours 14 = .ok (.goto (-12), 3) := by decide +kernel
theorem dX0_passHours_17 : decode cX0_passHours 17 = .ok (.return_, 1) := by decide +kernel
theorem dX0_holdsFor_0 : decode cX0_holdsFor 0 = .ok (.iconst 0, 1) := by decide +kernel
theorem dX0_holdsFor_1 : decode cX0_holdsFor 1 = .ok (.istore_n 2, 1) := by decide +kernel
theorem dX0_holdsFor_2 : decode cX0_holdsFor 2 = .ok (.iload_n 2, 1) := by decide +kernel
theorem dX0_holdsFor_3 : decode cX0_holdsFor 3 = .ok (.iload_n 1, 1) := by decide +kernel
theorem dX0_holdsFor_4 : decode cX0_holdsFor 4 = .ok (.if_icmp .ge 20, 3) := by decide +kernel
theorem dX0_holdsFor_7 : decode cX0_holdsFor 7 = .ok (.aload_n 0, 1) := by decide +kernel
theorem dX0_holdsFor_8 : decode cX0_holdsFor 8 = .ok (.getfield 23, 3) := by decide +kernel
theorem dX0_holdsFor_11 : decode cX0_holdsFor 11 = .ok (.ifCond .ne 13, 3) := by decide +kernel
theorem dX0_holdsFor_14 : decode cX0_holdsFor 14 = .ok (.aload_n 0, 1) := by decide +kernel
theorem dX0_holdsFor_15 : decode cX0_holdsFor 15 = .ok (.invokevirtual 101, 3) := by decide +kernel
theorem dX0_holdsFor_18 : decode cX0_holdsFor 18 = .ok (.iinc 2 1, 3) := by decide +kernel
theorem dX0_holdsFor_21 : decode cX0_holdsFor 21 = .ok (.goto (-19), 3) := by decide +kernel
theorem dX0_holdsFor_24 : decode cX0_holdsFor 24 = .ok (.aload_n 0, 1) := by decide +kernel
theorem dX0_holdsFor_25 : decode cX0_holdsFor 25 = .ok (.getfield 23, 3) := by decide +kernel
theorem dX0_holdsFor_28 : decode cX0_holdsFor 28 = .ok (.ifCond .ne 7, 3) := by decide +kernel
theorem dX0_holdsFor_31 : decode cX0_holdsFor 31 = .ok (.iconst 1, 1) := by decide +kernel
theorem dX0_holdsFor_32 : decode cX0_holdsFor 32 = .ok (.goto 4, 3) := by decide +kernel
theorem dX0_holdsFor_35 : decode cX0_holdsFor 35 = .ok (.iconst 0, 1) := by decide +kernel
theorem dX0_holdsFor_36 : decode cX0_holdsFor 36 = .ok (.ireturn, 1) := by decide +kernel
theorem dX0_passHour_0 : decode cX0_passHour 0 = .ok (.aload_n 0, 1) := by decide +kernel
theorem dX0_passHour_1 : decode cX0_passHour 1 = .ok (.invokevirtual 104, 3) := by decide +kernel
theorem dX0_passHour_4 : decode cX0_passHour 4 = .ok (.istore_n 1, 1) := by decide +kernel
theorem dX0_passHour_5 : decode cX0_passHour 5 = .ok (.iconst 0, 1) := by decide +kernel
theorem dX0_passHour_6 : decode cX0_passHour 6 = .ok (.istore_n 2, 1) := by decide +kernel
theorem dX0_passHour_7 : decode cX0_passHour 7 = .ok (.iload_n 2, 1) := by decide +kernel
theorem dX0_passHour_8 : decode cX0_passHour 8 = .ok (.aload_n 0, 1) := by decide +kernel
theorem dX0_passHour_9 : decode cX0_passHour 9 = .ok (.getfield 29, 3) := by decide +kernel
theorem dX0_passHour_12 : decode cX0_passHour 12 = .ok (.if_icmp .ge 39, 3) := by decide +kernel
theorem dX0_passHour_15 : decode cX0_passHour 15 = .ok (.aload_n 0, 1) := by decide +kernel
theorem dX0_passHour_16 : decode cX0_passHour 16 = .ok (.getfield 47, 3) := by decide +kernel
theorem dX0_passHour_19 : decode cX0_passHour 19 = .ok (.iload_n 2, 1) := by decide +kernel
theorem dX0_passHour_20 : decode cX0_passHour 20 = .ok (.iaload, 1) := by decide +kernel
theorem dX0_passHour_21 : decode cX0_passHour 21 = .ok (.ifCond .ne 24, 3) := by decide +kernel
theorem dX0_passHour_24 : decode cX0_passHour 24 = .ok (.aload_n 0, 1) := by decide +kernel
theorem dX0_passHour_25 : decode cX0_passHour 25 = .ok (.getfield 35, 3) := by decide +kernel
theorem dX0_passHour_28 : decode cX0_passHour 28 = .ok (.iload_n 2, 1) := by decide +kernel
theorem dX0_passHour_29 : decode cX0_passHour 29 = .ok (.iaload, 1) := by decide +kernel
theorem dX0_passHour_30 : decode cX0_passHour 30 = .ok (.aload_n 0, 1) := by decide +kernel
theorem dX0_passHour_31 : decode cX0_passHour 31 = .ok (.getfield 41, 3) := by decide +kernel
theorem dX0_passHour_34 : decode cX0_passHour 34 = .ok (.iload_n 2, 1) := by decide +kernel
theorem dX0_passHour_35 : decode cX0_passHour 35 = .ok (.iaload, 1) := by decide +kernel
theorem dX0_passHour_36 : decode cX0_passHour 36 = .ok (.if_icmp .eq 9, 3) := by decide +kernel
theorem dX0_passHour_39 : decode cX0_passHour 39 = .ok (.aload_n 0, 1) := by decide +kernel
theorem dX0_passHour_40 : decode cX0_passHour 40 = .ok (.iload_n 2, 1) := by decide +kernel
theorem dX0_passHour_41 : decode cX0_passHour 41 = .ok (.iload_n 1, 1) := by decide +kernel
theorem dX0_passHour_42 : decode cX0_passHour 42 = .ok (.invokevirtual 107, 3) := by decide +kernel
theorem dX0_passHour_45 : decode cX0_passHour 45 = .ok (.iinc 2 1, 3) := by decide +kernel
theorem dX0_passHour_48 : decode cX0_passHour 48 = .ok (.goto (-41), 3) := by decide +kernel
theorem dX0_passHour_51 : decode cX0_passHour 51 = .ok (.aload_n 0, 1) := by decide +kernel
theorem dX0_passHour_52 : decode cX0_passHour 52 = .ok (.getfield 23, 3) := by decide +kernel
theorem dX0_passHour_55 : decode cX0_passHour 55 = .ok (.ifCond .ne 8, 3) := by decide +kernel
theorem dX0_passHour_58 : decode cX0_passHour 58 = .ok (.aload_n 0, 1) := by decide +kernel
theorem dX0_passHour_59 : decode cX0_passHour 59 = .ok (.iload_n 1, 1) := by decide +kernel
theorem dX0_passHour_60 : decode cX0_passHour 60 = .ok (.invokevirtual 111, 3) := by decide +kernel
theorem dX0_passHour_63 : decode cX0_passHour 63 = .ok (.aload_n 0, 1) := by decide +kernel
theorem dX0_passHour_64 : decode cX0_passHour 64 = .ok (.aload_n 0, 1) := by decide +kernel
theorem dX0_passHour_65 : decode cX0_passHour 65 = .ok (.getfield 26, 3) := by decide +kernel
theorem dX0_passHour_68 : decode cX0_passHour 68 = .ok (.iconst 1, 1) := by decide +kernel
theorem dX0_passHour_69 : decode cX0_passHour 69 = .ok (.iadd, 1) := by decide +kernel
theorem dX0_passHour_70 : decode cX0_passHour 70 = .ok (.ldc 115, 2) := by decide +kernel
theorem dX0_passHour_72 : decode cX0_passHour 72 = .ok (.invokestatic 116, 3) := by decide +kernel
theorem dX0_passHour_75 : decode cX0_passHour 75 = .ok (.putfield 26, 3) := by decide +kernel
theorem dX0_passHour_78 : decode cX0_passHour 78 = .ok (.return_, 1) := by decide +kernel
theorem dX0_walk_0 : decode cX0_walk 0 = .ok (.aload_n 0, 1) := by decide +kernel
theorem dX0_walk_1 : decode cX0_walk 1 = .ok (.iload_n 1, 1) := by decide +kernel
theorem dX0_walk_2 : decode cX0_walk 2 = .ok (.invokevirtual 88, 3) := by decide +kernel
theorem dX0_walk_5 : decode cX0_walk 5 = .ok (.istore_n 3, 1) := by decide +kernel
theorem dX0_walk_6 : decode cX0_walk 6 = .ok (.aload_n 0, 1) := by decide +kernel
theorem dX0_walk_7 : decode cX0_walk 7 = .ok (.getfield 32, 3) := by decide +kernel
theorem dX0_walk_10 : decode cX0_walk 10 = .ok (.iload_n 1, 1) := by decide +kernel
theorem dX0_walk_11 : decode cX0_walk 11 = .ok (.iaload, 1) := by decide +kernel
theorem dX0_walk_12 : decode cX0_walk 12 = .ok (.invokestatic 119, 3) := by decide +kernel
theorem dX0_walk_15 : decode cX0_walk 15 = .ok (.istore 4, 2) := by decide +kernel
theorem dX0_walk_17 : decode cX0_walk 17 = .ok (.aload_n 0, 1) := by decide +kernel
theorem dX0_walk_18 : decode cX0_walk 18 = .ok (.getfield 41, 3) := by decide +kernel
theorem dX0_walk_21 : decode cX0_walk 21 = .ok (.iload_n 1, 1) := by decide +kernel
theorem dX0_walk_22 : decode cX0_walk 22 = .ok (.iaload, 1) := by decide +kernel
theorem dX0_walk_23 : decode cX0_walk 23 = .ok (.aload_n 0, 1) := by decide +kernel
theorem dX0_walk_24 : decode cX0_walk 24 = .ok (.getfield 35, 3) := by decide +kernel
theorem dX0_walk_27 : decode cX0_walk 27 = .ok (.iload_n 1, 1) := by decide +kernel
theorem dX0_walk_28 : decode cX0_walk 28 = .ok (.iaload, 1) := by decide +kernel
theorem dX0_walk_29 : decode cX0_walk 29 = .ok (.if_icmp .le 7, 3) := by decide +kernel
theorem dX0_walk_32 : decode cX0_walk 32 = .ok (.iconst 1, 1) := by decide +kernel
theorem dX0_walk_33 : decode cX0_walk 33 = .ok (.goto 4, 3) := by decide +kernel
theorem dX0_walk_36 : decode cX0_walk 36 = .ok (.iconst (-1), 1) := by decide +kernel
theorem dX0_walk_37 : decode cX0_walk 37 = .ok (.istore 5, 2) := by decide +kernel
theorem dX0_walk_39 : decode cX0_walk 39 = .ok (.iconst 0, 1) := by decide +kernel
theorem dX0_walk_40 : decode cX0_walk 40 = .ok (.istore 6, 2) := by decide +kernel
theorem dX0_walk_42 : decode cX0_walk 42 = .ok (.iload 6, 2) := by decide +kernel
theorem dX0_walk_44 : decode cX0_walk 44 = .ok (.iload 4, 2) := by decide +kernel
theorem dX0_walk_46 : decode cX0_walk 46 = .ok (.if_icmp .ge 53, 3) := by decide +kernel
theorem dX0_walk_49 : decode cX0_walk 49 = .ok (.aload_n 0, 1) := by decide +kernel
theorem dX0_walk_50 : decode cX0_walk 50 = .ok (.getfield 35, 3) := by decide +kernel
theorem dX0_walk_53 : decode cX0_walk 53 = .ok (.iload_n 1, 1) := by decide +kernel
theorem dX0_walk_54 : decode cX0_walk 54 = .ok (.iaload, 1) := by decide +kernel
theorem dX0_walk_55 : decode cX0_walk 55 = .ok (.aload_n 0, 1) := by decide +kernel
theorem dX0_walk_56 : decode cX0_walk 56 = .ok (.getfield 41, 3) := by decide +kernel
theorem dX0_walk_59 : decode cX0_walk 59 = .ok (.iload_n 1, 1) := by decide +kernel
theorem dX0_walk_60 : decode cX0_walk 60 = .ok (.iaload, 1) := by decide +kernel
theorem dX0_walk_61 : decode cX0_walk 61 = .ok (.if_icmp .eq 38, 3) := by decide +kernel
theorem dX0_walk_64 : decode cX0_walk 64 = .ok (.aload_n 0, 1) := by decide +kernel
theorem dX0_walk_65 : decode cX0_walk 65 = .ok (.aload_n 0, 1) := by decide +kernel
theorem dX0_walk_66 : decode cX0_walk 66 = .ok (.getfield 35, 3) := by decide +kernel
theorem dX0_walk_69 : decode cX0_walk 69 = .ok (.iload_n 1, 1) := by decide +kernel
theorem dX0_walk_70 : decode cX0_walk 70 = .ok (.iaload, 1) := by decide +kernel
theorem dX0_walk_71 : decode cX0_walk 71 = .ok (.iload 5, 2) := by decide +kernel
theorem dX0_walk_73 : decode cX0_walk 73 = .ok (.iadd, 1) := by decide +kernel
theorem dX0_walk_74 : decode cX0_walk 74 = .ok (.iload_n 2, 1) := by decide +kernel
theorem dX0_walk_75 : decode cX0_walk 75 = .ok (.invokevirtual 91, 3) := by decide +kernel
theorem dX0_walk_78 : decode cX0_walk 78 = .ok (.iload_n 3, 1) := by decide +kernel
theorem dX0_walk_79 : decode cX0_walk 79 = .ok (.if_icmp .lt 20, 3) := by decide +kernel
theorem dX0_walk_82 : decode cX0_walk 82 = .ok (.aload_n 0, 1) := by decide +kernel
theorem dX0_walk_83 : decode cX0_walk 83 = .ok (.getfield 35, 3) := by decide +kernel
theorem dX0_walk_86 : decode cX0_walk 86 = .ok (.iload_n 1, 1) := by decide +kernel
theorem dX0_walk_87 : decode cX0_walk 87 = .ok (.dup2, 1) := by decide +kernel
theorem dX0_walk_88 : decode cX0_walk 88 = .ok (.iaload, 1) := by decide +kernel
theorem dX0_walk_89 : decode cX0_walk 89 = .ok (.iload 5, 2) := by decide +kernel
theorem dX0_walk_91 : decode cX0_walk 91 = .ok (.iadd, 1) := by decide +kernel
theorem dX0_walk_92 : decode cX0_walk 92 = .ok (.iastore, 1) := by decide +kernel
theorem dX0_walk_93 : decode cX0_walk 93 = .ok (.iinc 6 1, 3) := by decide +kernel
theorem dX0_walk_96 : decode cX0_walk 96 = .ok (.goto (-54), 3) := by decide +kernel
theorem dX0_walk_99 : decode cX0_walk 99 = .ok (.aload_n 0, 1) := by decide +kernel
theorem dX0_walk_100 : decode cX0_walk 100 = .ok (.getfield 44, 3) := by decide +kernel
theorem dX0_walk_103 : decode cX0_walk 103 = .ok (.iload_n 1, 1) := by decide +kernel
theorem dX0_walk_104 : decode cX0_walk 104 = .ok (.iload 6, 2) := by decide +kernel
theorem dX0_walk_106 : decode cX0_walk 106 = .ok (.ifCond .le 7, 3) := by decide +kernel
theorem dX0_walk_109 : decode cX0_walk 109 = .ok (.iconst 0, 1) := by decide +kernel
theorem dX0_walk_110 : decode cX0_walk 110 = .ok (.goto 17, 3) := by decide +kernel
theorem dX0_walk_113 : decode cX0_walk 113 = .ok (.aload_n 0, 1) := by decide +kernel
theorem dX0_walk_114 : decode cX0_walk 114 = .ok (.getfield 44, 3) := by decide +kernel
theorem dX0_walk_117 : decode cX0_walk 117 = .ok (.iload_n 1, 1) := by decide +kernel
theorem dX0_walk_118 : decode cX0_walk 118 = .ok (.iaload, 1) := by decide +kernel
theorem dX0_walk_119 : decode cX0_walk 119 = .ok (.iconst 1, 1) := by decide +kernel
theorem dX0_walk_120 : decode cX0_walk 120 = .ok (.iadd, 1) := by decide +kernel
theorem dX0_walk_121 : decode cX0_walk 121 = .ok (.sipush 9999, 3) := by decide +kernel
theorem dX0_walk_124 : decode cX0_walk 124 = .ok (.invokestatic 116, 3) := by decide +kernel
theorem dX0_walk_127 : decode cX0_walk 127 = .ok (.iastore, 1) := by decide +kernel
theorem dX0_walk_128 : decode cX0_walk 128 = .ok (.return_, 1) := by decide +kernel
theorem dX0_pull_0 : decode cX0_pull 0 = .ok (.bipush 36, 2) := by decide +kernel
theorem dX0_pull_2 : decode cX0_pull 2 = .ok (.iload_n 1, 1) := by decide +kernel
theorem dX0_pull_3 : decode cX0_pull 3 = .ok (.isub, 1) := by decide +kernel
theorem dX0_pull_4 : decode cX0_pull 4 = .ok (.istore_n 2, 1) := by decide +kernel
theorem dX0_pull_5 : decode cX0_pull 5 = .ok (.iconst 0, 1) := by decide +kernel
theorem dX0_pull_6 : decode cX0_pull 6 = .ok (.istore_n 3, 1) := by decide +kernel
theorem dX0_pull_7 : decode cX0_pull 7 = .ok (.iconst 0, 1) := by decide +kernel
theorem dX0_pull_8 : decode cX0_pull 8 = .ok (.istore 4, 2) := by decide +kernel
theorem dX0_pull_10 : decode cX0_pull 10 = .ok (.iload 4, 2) := by decide +kernel
theorem dX0_pull_12 : decode cX0_pull 12 = .ok (.aload_n 0, 1) := by decide +kernel
theorem dX0_pull_13 : decode cX0_pull 13 = .ok (.getfield 29, 3) := by decide +kernel
theorem dX0_pull_16 : decode cX0_pull 16 = .ok (.if_icmp .ge 63, 3) := by decide +kernel
theorem dX0_pull_19 : decode cX0_pull 19 = .ok (.aload_n 0, 1) := by decide +kernel
theorem dX0_pull_20 : decode cX0_pull 20 = .ok (.getfield 47, 3) := by decide +kernel
theorem dX0_pull_23 : decode cX0_pull 23 = .ok (.iload 4, 2) := by decide +kernel
theorem dX0_pull_25 : decode cX0_pull 25 = .ok (.iaload, 1) := by decide +kernel
theorem dX0_pull_26 : decode cX0_pull 26 = .ok (.ifCond .ne 47, 3) := by decide +kernel
theorem dX0_pull_29 : decode cX0_pull 29 = .ok (.iload_n 2, 1) := by decide +kernel
theorem dX0_pull_30 : decode cX0_pull 30 = .ok (.aload_n 0, 1) := by decide +kernel
theorem dX0_pull_31 : decode cX0_pull 31 = .ok (.getfield 35, 3) := by decide +kernel
theorem dX0_pull_34 : decode cX0_pull 34 = .ok (.iload 4, 2) := by decide +kernel
theorem dX0_pull_36 : decode cX0_pull 36 = .ok (.iaload, 1) := by decide +kernel
theorem dX0_pull_37 : decode cX0_pull 37 = .ok (.ifCond .ne 20, 3) := by decide +kernel
theorem dX0_pull_40 : decode cX0_pull 40 = .ok (.aload_n 0, 1) := by decide +kernel
theorem dX0_pull_41 : decode cX0_pull 41 = .ok (.getfield 32, 3) := by decide +kernel
theorem dX0_pull_44 : decode cX0_pull 44 = .ok (.iload 4, 2) := by decide +kernel
theorem dX0_pull_46 : decode cX0_pull 46 = .ok (.iaload, 1) := by decide +kernel
theorem dX0_pull_47 : decode cX0_pull 47 = .ok (.aload_n 0, 1) := by decide +kernel
theorem dX0_pull_48 : decode cX0_pull 48 = .ok (.getfield 26, 3) := by decide +kernel
theorem dX0_pull_51 : decode cX0_pull 51 = .ok (.invokestatic 122, 3) := by decide +kernel
theorem dX0_pull_54 : decode cX0_pull 54 = .ok (.goto 4, 3) := by decide +kernel
theorem dX0_pull_57 : decode cX0_pull 57 = .ok (.iconst 0, 1) := by decide +kernel
theorem dX0_pull_58 : decode cX0_pull 58 = .ok (.iadd, 1) := by decide +kernel
theorem dX0_pull_59 : decode cX0_pull 59 = .ok (.istore_n 2, 1) := by decide +kernel
theorem dX0_pull_60 : decode cX0_pull 60 = .ok (.iload_n 3, 1) := by decide +kernel
theorem dX0_pull_61 : decode cX0_pull 61 = .ok (.aload_n 0, 1) := by decide +kernel
theorem dX0_pull_62 : decode cX0_pull 62 = .ok (.getfield 32, 3) := by decide +kernel
theorem dX0_pull_65 : decode cX0_pull 65 = .ok (.iload 4, 2) := by decide +kernel
theorem dX0_pull_67 : decode cX0_pull 67 = .ok (.iaload, 1) := by decide +kernel
theorem dX0_pull_68 : decode cX0_pull 68 = .ok (.invokestatic 125, 3) := by decide +kernel
theorem dX0_pull_71 : decode cX0_pull 71 = .ok (.iadd, 1) := by decide +kernel
theorem dX0_pull_72 : decode cX0_pull 72 = .ok (.istore_n 3, 1) := by decide +kernel
theorem dX0_pull_73 : decode cX0_pull 73 = .ok (.iinc 4 1, 3) := by decide +kernel
theorem dX0_pull_76 : decode cX0_pull 76 = .ok (.goto (-66), 3) := by decide +kernel
theorem dX0_pull_79 : decode cX0_pull 79 = .ok (.aload_n 0, 1) := by decide +kernel
theorem dX0_pull_80 : decode cX0_pull 80 = .ok (.aload_n 0, 1) := by decide +kernel
theorem dX0_pull_81 : decode cX0_pull 81 = .ok (.getfield 20, 3) := by decide +kernel
theorem dX0_pull_84 : decode cX0_pull 84 = .ok (.iload_n 2, 1) := by decide +kernel
theorem dX0_pull_85 : decode cX0_pull 85 = .ok (.iadd, 1) := by decide +kernel
theorem dX0_pull_86 : decode cX0_pull 86 = .ok (.iload_n 3, 1) := by decide +kernel
theorem dX0_pull_87 : decode cX0_pull 87 = .ok (.isub, 1) := by decide +kernel
theorem dX0_pull_88 : decode cX0_pull 88 = .ok (.iconst 0, 1) := by decide +kernel
theorem dX0_pull_89 : decode cX0_pull 89 = .ok (.invokestatic 82, 3) := by decide +kernel
theorem dX0_pull_92 : decode cX0_pull 92 = .ok (.sipush 9999, 3) := by decide +kernel
theorem dX0_pull_95 : decode cX0_pull 95 = .ok (.invokestatic 116, 3) := by decide +kernel
theorem dX0_pull_98 : decode cX0_pull 98 = .ok (.putfield 20, 3) := by decide +kernel
theorem dX0_pull_101 : decode cX0_pull 101 = .ok (.aload_n 0, 1) := by decide +kernel
theorem dX0_pull_102 : decode cX0_pull 102 = .ok (.getfield 20, 3) := by decide +kernel
theorem dX0_pull_105 : decode cX0_pull 105 = .ok (.aload_n 0, 1) := by decide +kernel
theorem dX0_pull_106 : decode cX0_pull 106 = .ok (.getfield 16, 3) := by decide +kernel
theorem dX0_pull_109 : decode cX0_pull 109 = .ok (.if_icmp .le 8, 3) := by decide +kernel
theorem dX0_pull_112 : decode cX0_pull 112 = .ok (.aload_n 0, 1) := by decide +kernel
theorem dX0_pull_113 : decode cX0_pull 113 = .ok (.iconst 1, 1) := by decide +kernel
theorem dX0_pull_114 : decode cX0_pull 114 = .ok (.putfield 23, 3) := by decide +kernel
theorem dX0_pull_117 : decode cX0_pull 117 = .ok (.return_, 1) := by decide +kernel
theorem dX0_draw_0 : decode cX0_draw 0 = .ok (.aload_n 0, 1) := by decide +kernel
theorem dX0_draw_1 : decode cX0_draw 1 = .ok (.aload_n 0, 1) := by decide +kernel
theorem dX0_draw_2 : decode cX0_draw 2 = .ok (.getfield 50, 3) := by decide +kernel
theorem dX0_draw_5 : decode cX0_draw 5 = .ok (.ldc 128, 2) := by decide +kernel
theorem dX0_draw_7 : decode cX0_draw 7 = .ok (.imul, 1) := by decide +kernel
theorem dX0_draw_8 : decode cX0_draw 8 = .ok (.sipush 12345, 3) := by decide +kernel
theorem dX0_draw_11 : decode cX0_draw 11 = .ok (.iadd, 1) := by decide +kernel
theorem dX0_draw_12 : decode cX0_draw 12 = .ok (.putfield 50, 3) := by decide +kernel
theorem dX0_draw_15 : decode cX0_draw 15 = .ok (.aload_n 0, 1) := by decide +kernel
theorem dX0_draw_16 : decode cX0_draw 16 = .ok (.getfield 50, 3) := by decide +kernel
theorem dX0_draw_19 : decode cX0_draw 19 = .ok (.bipush 8, 2) := by decide +kernel
theorem dX0_draw_21 : decode cX0_draw 21 = .ok (.iushr, 1) := by decide +kernel
theorem dX0_draw_22 : decode cX0_draw 22 = .ok (.ireturn, 1) := by decide +kernel
theorem dX0_passPartyHour_0 : decode cX0_passPartyHour 0 = .ok (.aload_n 0, 1) := by decide +kernel
theorem dX0_passPartyHour_1 : decode cX0_passPartyHour 1 = .ok (.getfield 13, 3) := by decide +kernel
theorem dX0_passPartyHour_4 : decode cX0_passPartyHour 4 = .ok (.aload_n 0, 1) := by decide +kernel
theorem dX0_passPartyHour_5 : decode cX0_passPartyHour 5 = .ok (.invokevirtual 78, 3) := by decide +kernel
theorem dX0_passPartyHour_8 : decode cX0_passPartyHour 8 = .ok (.bipush 16, 2) := by decide +kernel
theorem dX0_passPartyHour_10 : decode cX0_passPartyHour 10 = .ok (.aload_n 0, 1) := by decide +kernel
theorem dX0_passPartyHour_11 : decode cX0_passPartyHour 11 = .ok (.invokevirtual 129, 3) := by decide +kernel
theorem dX0_passPartyHour_14 : decode cX0_passPartyHour 14 = .ok (.bipush 21, 2) := by decide +kernel
theorem dX0_passPartyHour_16 : decode cX0_passPartyHour 16 = .ok (.irem, 1) := by decide +kernel
theorem dX0_passPartyHour_17 : decode cX0_passPartyHour 17 = .ok (.iadd, 1) := by decide +kernel
theorem dX0_passPartyHour_18 : decode cX0_passPartyHour 18 = .ok (.iastore, 1) := by decide +kernel
theorem dX0_passPartyHour_19 : decode cX0_passPartyHour 19 = .ok (.aload_n 0, 1) := by decide +kernel
theorem dX0_passPartyHour_20 : decode cX0_passPartyHour 20 = .ok (.invokevirtual 129, 3) := by decide +kernel
theorem dX0_passPartyHour_23 : decode cX0_passPartyHour 23 = .ok (.bipush 8, 2) := by decide +kernel
theorem dX0_passPartyHour_25 : decode cX0_passPartyHour 25 = .ok (.irem, 1) := by decide +kernel
theorem dX0_passPartyHour_26 : decode cX0_passPartyHour 26 = .ok (.istore_n 1, 1) := by decide +kernel
theorem dX0_passPartyHour_27 : decode cX0_passPartyHour 27 = .ok (.iload_n 1, 1) := by decide +kernel
theorem dX0_passPartyHour_28 : decode cX0_passPartyHour 28 = .ok (.aload_n 0, 1) := by decide +kernel
theorem dX0_passPartyHour_29 : decode cX0_passPartyHour 29 = .ok (.getfield 29, 3) := by decide +kernel
theorem dX0_passPartyHour_32 : decode cX0_passPartyHour 32 = .ok (.if_icmp .ge 20, 3) := by decide +kernel
theorem dX0_passPartyHour_35 : decode cX0_passPartyHour 35 = .ok (.aload_n 0, 1) := by decide +kernel
theorem dX0_passPartyHour_36 : decode cX0_passPartyHour 36 = .ok (.getfield 41, 3) := by decide +kernel
theorem dX0_passPartyHour_39 : decode cX0_passPartyHour 39 = .ok (.iload_n 1, 1) := by decide +kernel
theorem dX0_passPartyHour_40 : decode cX0_passPartyHour 40 = .ok (.aload_n 0, 1) := by decide +kernel
theorem dX0_passPartyHour_41 : decode cX0_passPartyHour 41 = .ok (.getfield 41, 3) := by decide +kernel
theorem dX0_passPartyHour_44 : decode cX0_passPartyHour 44 = .ok (.iload_n 1, 1) := by decide +kernel
theorem dX0_passPartyHour_45 : decode cX0_passPartyHour 45 = .ok (.iaload, 1) := by decide +kernel
theorem dX0_passPartyHour_46 : decode cX0_passPartyHour 46 = .ok (.iconst 1, 1) := by decide +kernel
theorem dX0_passPartyHour_47 : decode cX0_passPartyHour 47 = .ok (.iadd, 1) := by decide +kernel
theorem dX0_passPartyHour_48 : decode cX0_passPartyHour 48 = .ok (.bipush 16, 2) := by decide +kernel
theorem dX0_passPartyHour_50 : decode cX0_passPartyHour 50 = .ok (.irem, 1) := by decide +kernel
theorem dX0_passPartyHour_51 : decode cX0_passPartyHour 51 = .ok (.iastore, 1) := by decide +kernel
theorem dX0_passPartyHour_52 : decode cX0_passPartyHour 52 = .ok (.aload_n 0, 1) := by decide +kernel
theorem dX0_passPartyHour_53 : decode cX0_passPartyHour 53 = .ok (.invokevirtual 101, 3) := by decide +kernel
theorem dX0_passPartyHour_56 : decode cX0_passPartyHour 56 = .ok (.return_, 1) := by decide +kernel
theorem dX0_thoseStuck_0 : decode cX0_thoseStuck 0 = .ok (.iconst 0, 1) := by decide +kernel
theorem dX0_thoseStuck_1 : decode cX0_thoseStuck 1 = .ok (.istore_n 1, 1) := by decide +kernel
theorem dX0_thoseStuck_2 : decode cX0_thoseStuck 2 = .ok (.iconst 0, 1) := by decide +kernel
theorem dX0_thoseStuck_3 : decode cX0_thoseStuck 3 = .ok (.istore_n 2, 1) := by decide +kernel
theorem dX0_thoseStuck_4 : decode cX0_thoseStuck 4 = .ok (.iload_n 2, 1) := by decide +kernel
theorem dX0_thoseStuck_5 : decode cX0_thoseStuck 5 = .ok (.aload_n 0, 1) := by decide +kernel
theorem dX0_thoseStuck_6 : decode cX0_thoseStuck 6 = .ok (.getfield 29, 3) := by decide +kernel
theorem dX0_thoseStuck_9 : decode cX0_thoseStuck 9 = .ok (.if_icmp .ge 28, 3) := by decide +kernel
theorem dX0_thoseStuck_12 : decode cX0_thoseStuck 12 = .ok (.iload_n 1, 1) := by decide +kernel
theorem dX0_thoseStuck_13 : decode cX0_thoseStuck 13 = .ok (.aload_n 0, 1) := by decide +kernel
theorem dX0_thoseStuck_14 : decode cX0_thoseStuck 14 = .ok (.getfield 44, 3) := by decide +kernel
theorem dX0_thoseStuck_17 : decode cX0_thoseStuck 17 = .ok (.iload_n 2, 1) := by decide +kernel
theorem dX0_thoseStuck_18 : decode cX0_thoseStuck 18 = .ok (.iaload, 1) := by decide +kernel
theorem dX0_thoseStuck_19 : decode cX0_thoseStuck 19 = .ok (.ifCond .le 9, 3) := by decide +kernel
theorem dX0_thoseStuck_22 : decode cX0_thoseStuck 22 = .ok (.iconst 1, 1) := by decide +kernel
theorem dX0_thoseStuck_23 : decode cX0_thoseStuck 23 = .ok (.iload_n 2, 1) := by decide +kernel
theorem dX0_thoseStuck_24 : decode cX0_thoseStuck 24 = .ok (.ishl, 1) := by decide +kernel
theorem dX0_thoseStuck_25 : decode cX0_thoseStuck 25 = .ok (.goto 4, 3) := by decide +kernel
theorem dX0_thoseStuck_28 : decode cX0_thoseStuck 28 = .ok (.iconst 0, 1) := by decide +kernel
theorem dX0_thoseStuck_29 : decode cX0_thoseStuck 29 = .ok (.ior, 1) := by decide +kernel
theorem dX0_thoseStuck_30 : decode cX0_thoseStuck 30 = .ok (.istore_n 1, 1) := by decide +kernel
theorem dX0_thoseStuck_31 : decode cX0_thoseStuck 31 = .ok (.iinc 2 1, 3) := by decide +kernel
theorem dX0_thoseStuck_34 : decode cX0_thoseStuck 34 = .ok (.goto (-30), 3) := by decide +kernel
theorem dX0_thoseStuck_37 : decode cX0_thoseStuck 37 = .ok (.iload_n 1, 1) := by decide +kernel
theorem dX0_thoseStuck_38 : decode cX0_thoseStuck 38 = .ok (.ireturn, 1) := by decide +kernel
theorem dX0_thoseAtAim_0 : decode cX0_thoseAtAim 0 = .ok (.iconst 0, 1) := by decide +kernel
theorem dX0_thoseAtAim_1 : decode cX0_thoseAtAim 1 = .ok (.istore_n 1, 1) := by decide +kernel
theorem dX0_thoseAtAim_2 : decode cX0_thoseAtAim 2 = .ok (.iconst 0, 1) := by decide +kernel
theorem dX0_thoseAtAim_3 : decode cX0_thoseAtAim 3 = .ok (.istore_n 2, 1) := by decide +kernel
theorem dX0_thoseAtAim_4 : decode cX0_thoseAtAim 4 = .ok (.iload_n 2, 1) := by decide +kernel
theorem dX0_thoseAtAim_5 : decode cX0_thoseAtAim 5 = .ok (.aload_n 0, 1) := by decide +kernel
theorem dX0_thoseAtAim_6 : decode cX0_thoseAtAim 6 = .ok (.getfield 29, 3) := by decide +kernel
theorem dX0_thoseAtAim_9 : decode cX0_thoseAtAim 9 = .ok (.if_icmp .ge 34, 3) := by decide +kernel
theorem dX0_thoseAtAim_12 : decode cX0_thoseAtAim 12 = .ok (.iload_n 1, 1) := by decide +kernel
theorem dX0_thoseAtAim_13 : decode cX0_thoseAtAim 13 = .ok (.aload_n 0, 1) := by decide +kernel
theorem dX0_thoseAtAim_14 : decode cX0_thoseAtAim 14 = .ok (.getfield 35, 3) := by decide +kernel
theorem dX0_thoseAtAim_17 : decode cX0_thoseAtAim 17 = .ok (.iload_n 2, 1) := by decide +kernel
theorem dX0_thoseAtAim_18 : decode cX0_thoseAtAim 18 = .ok (.iaload, 1) := by decide +kernel
theorem dX0_thoseAtAim_19 : decode cX0_thoseAtAim 19 = .ok (.aload_n 0, 1) := by decide +kernel
theorem dX0_thoseAtAim_20 : decode cX0_thoseAtAim 20 = .ok (.getfield 41, 3) := by decide +kernel
theorem dX0_thoseAtAim_23 : decode cX0_thoseAtAim 23 = .ok (.iload_n 2, 1) := by decide +kernel
theorem dX0_thoseAtAim_24 : decode cX0_thoseAtAim 24 = .ok (.iaload, 1) := by decide +kernel
theorem dX0_thoseAtAim_25 : decode cX0_thoseAtAim 25 = .ok (.if_icmp .ne 9, 3) := by decide +kernel
theorem dX0_thoseAtAim_28 : decode cX0_thoseAtAim 28 = .ok (.iconst 1, 1) := by decide +kernel
theorem dX0_thoseAtAim_29 : decode cX0_thoseAtAim 29 = .ok (.iload_n 2, 1) := by decide +kernel
theorem dX0_thoseAtAim_30 : decode cX0_thoseAtAim 30 = .ok (.ishl, 1) := by decide +kernel
theorem dX0_thoseAtAim_31 : decode cX0_thoseAtAim 31 = .ok (.goto 4, 3) := by decide +kernel
theorem dX0_thoseAtAim_34 : decode cX0_thoseAtAim 34 = .ok (.iconst 0, 1) := by decide +kernel
theorem dX0_thoseAtAim_35 : decode cX0_thoseAtAim 35 = .ok (.ior, 1) := by decide +kernel
theorem dX0_thoseAtAim_36 : decode cX0_thoseAtAim 36 = .ok (.istore_n 1, 1) := by decide +kernel
theorem dX0_thoseAtAim_37 : decode cX0_thoseAtAim 37 = .ok (.iinc 2 1, 3) := by decide +kernel
theorem dX0_thoseAtAim_40 : decode cX0_thoseAtAim 40 = .ok (.goto (-36), 3) := by decide +kernel
theorem dX0_thoseAtAim_43 : decode cX0_thoseAtAim 43 = .ok (.iload_n 1, 1) := by decide +kernel
theorem dX0_thoseAtAim_44 : decode cX0_thoseAtAim 44 = .ok (.ireturn, 1) := by decide +kernel
theorem dX0_thoseInHall_0 : decode cX0_thoseInHall 0 = .ok (.iconst 0, 1) := by decide +kernel
theorem dX0_thoseInHall_1 : decode cX0_thoseInHall 1 = .ok (.istore_n 1, 1) := by decide +kernel
theorem dX0_thoseInHall_2 : decode cX0_thoseInHall 2 = .ok (.iconst 0, 1) := by decide +kernel
theorem dX0_thoseInHall_3 : decode cX0_thoseInHall 3 = .ok (.istore_n 2, 1) := by decide +kernel
theorem dX0_thoseInHall_4 : decode cX0_thoseInHall 4 = .ok (.iload_n 2, 1) := by decide +kernel
theorem dX0_thoseInHall_5 : decode cX0_thoseInHall 5 = .ok (.aload_n 0, 1) := by decide +kernel
theorem dX0_thoseInHall_6 : decode cX0_thoseInHall 6 = .ok (.getfield 29, 3) := by decide +kernel
theorem dX0_thoseInHall_9 : decode cX0_thoseInHall 9 = .ok (.if_icmp .ge 37, 3) := by decide +kernel
theorem dX0_thoseInHall_12 : decode cX0_thoseInHall 12 = .ok (.iload_n 1, 1) := by decide +kernel
theorem dX0_thoseInHall_13 : decode cX0_thoseInHall 13 = .ok (.aload_n 0, 1) := by decide +kernel
theorem dX0_thoseInHall_14 : decode cX0_thoseInHall 14 = .ok (.getfield 35, 3) := by decide +kernel
theorem dX0_thoseInHall_17 : decode cX0_thoseInHall 17 = .ok (.iload_n 2, 1) := by decide +kernel
theorem dX0_thoseInHall_18 : decode cX0_thoseInHall 18 = .ok (.iaload, 1) := by decide +kernel
theorem dX0_thoseInHall_19 : decode cX0_thoseInHall 19 = .ok (.ifCond .ne 18, 3) := by decide +kernel
theorem dX0_thoseInHall_22 : decode cX0_thoseInHall 22 = .ok (.aload_n 0, 1) := by decide +kernel
theorem dX0_thoseInHall_23 : decode cX0_thoseInHall 23 = .ok (.getfield 47, 3) := by decide +kernel
theorem dX0_thoseInHall_26 : decode cX0_thoseInHall 26 = .ok (.iload_n 2, 1) := by decide +kernel
theorem dX0_thoseInHall_27 : decode cX0_thoseInHall 27 = .ok (.iaload, 1) := by decide +kernel
theorem dX0_thoseInHall_28 : decode cX0_thoseInHall 28 = .ok (.ifCond .ne 9, 3) := by decide +kernel
theorem dX0_thoseInHall_31 : decode cX0_thoseInHall 31 = .ok (.iconst 1, 1) := by decide +kernel
theorem dX0_thoseInHall_32 : decode cX0_thoseInHall 32 = .ok (.iload_n 2, 1) := by decide +kernel
theorem dX0_thoseInHall_33 : decode cX0_thoseInHall 33 = .ok (.ishl, 1) := by decide +kernel
theorem dX0_thoseInHall_34 : decode cX0_thoseInHall 34 = .ok (.goto 4, 3) := by decide +kernel
theorem dX0_thoseInHall_37 : decode cX0_thoseInHall 37 = .ok (.iconst 0, 1) := by decide +kernel
theorem dX0_thoseInHall_38 : decode cX0_thoseInHall 38 = .ok (.ior, 1) := by decide +kernel
theorem dX0_thoseInHall_39 : decode cX0_thoseInHall 39 = .ok (.istore_n 1, 1) := by decide +kernel
theorem dX0_thoseInHall_40 : decode cX0_thoseInHall 40 = .ok (.iinc 2 1, 3) := by decide +kernel
theorem dX0_thoseInHall_43 : decode cX0_thoseInHall 43 = .ok (.goto (-39), 3) := by decide +kernel
theorem dX0_thoseInHall_46 : decode cX0_thoseInHall 46 = .ok (.iload_n 1, 1) := by decide +kernel
theorem dX0_thoseInHall_47 : decode cX0_thoseInHall 47 = .ok (.ireturn, 1) := by decide +kernel
theorem dX0_closedCells_0 : decode cX0_closedCells 0 = .ok (.aload_n 0, 1) := by decide +kernel
theorem dX0_closedCells_1 : decode cX0_closedCells 1 = .ok (.invokevirtual 104, 3) := by decide +kernel
theorem dX0_closedCells_4 : decode cX0_closedCells 4 = .ok (.istore_n 1, 1) := by decide +kernel
theorem dX0_closedCells_5 : decode cX0_closedCells 5 = .ok (.iconst 0, 1) := by decide +kernel
theorem dX0_closedCells_6 : decode cX0_closedCells 6 = .ok (.istore_n 2, 1) := by decide +kernel
theorem dX0_closedCells_7 : decode cX0_closedCells 7 = .ok (.iconst 0, 1) := by decide +kernel
theorem dX0_closedCells_8 : decode cX0_closedCells 8 = .ok (.istore_n 3, 1) := by decide +kernel
theorem dX0_closedCells_9 : decode cX0_closedCells 9 = .ok (.iload_n 3, 1) := by decide +kernel
theorem dX0_closedCells_10 : decode cX0_closedCells 10 = .ok (.bipush 16, 2) := by decide +kernel
theorem dX0_closedCells_12 : decode cX0_closedCells 12 = .ok (.if_icmp .ge 28, 3) := by decide +kernel
theorem dX0_closedCells_15 : decode cX0_closedCells 15 = .ok (.iload_n 2, 1) := by decide +kernel
theorem dX0_closedCells_16 : decode cX0_closedCells 16 = .ok (.aload_n 0, 1) := by decide +kernel
theorem dX0_closedCells_17 : decode cX0_closedCells 17 = .ok (.iload_n 3, 1) := by decide +kernel
theorem dX0_closedCells_18 : decode cX0_closedCells 18 = .ok (.iload_n 1, 1) := by decide +kernel
theorem dX0_closedCells_19 : decode cX0_closedCells 19 = .ok (.invokevirtual 91, 3) := by decide +kernel
theorem dX0_closedCells_22 : decode cX0_closedCells 22 = .ok (.ifCond .ne 9, 3) := by decide +kernel
theorem dX0_closedCells_25 : decode cX0_closedCells 25 = .ok (.iconst 1, 1) := by decide +kernel
theorem dX0_closedCells_26 : decode cX0_closedCells 26 = .ok (.iload_n 3, 1) := by decide +kernel
theorem dX0_closedCells_27 : decode cX0_closedCells 27 = .ok (.ishl, 1) := by decide +kernel
theorem dX0_closedCells_28 : decode cX0_closedCells 28 = .ok (.goto 4, 3) := by decide +kernel
theorem dX0_closedCells_31 : decode cX0_closedCells 31 = .ok (.iconst 0, 1) := by decide +kernel
theorem dX0_closedCells_32 : decode cX0_closedCells 32 = .ok (.ior, 1) := by decide +kernel
theorem dX0_closedCells_33 : decode cX0_closedCells 33 = .ok (.istore_n 2, 1) := by decide +kernel
theorem dX0_closedCells_34 : decode cX0_closedCells 34 = .ok (.iinc 3 1, 3) := by decide +kernel
theorem dX0_closedCells_37 : decode cX0_closedCells 37 = .ok (.goto (-28), 3) := by decide +kernel
theorem dX0_closedCells_40 : decode cX0_closedCells 40 = .ok (.iload_n 2, 1) := by decide +kernel
theorem dX0_closedCells_41 : decode cX0_closedCells 41 = .ok (.ireturn, 1) := by decide +kernel
theorem dX0_howManyHome_0 : decode cX0_howManyHome 0 = .ok (.iconst 0, 1) := by decide +kernel
theorem dX0_howManyHome_1 : decode cX0_howManyHome 1 = .ok (.istore_n 1, 1) := by decide +kernel
theorem dX0_howManyHome_2 : decode cX0_howManyHome 2 = .ok (.iconst 0, 1) := by decide +kernel
theorem dX0_howManyHome_3 : decode cX0_howManyHome 3 = .ok (.istore_n 2, 1) := by decide +kernel
theorem dX0_howManyHome_4 : decode cX0_howManyHome 4 = .ok (.iload_n 2, 1) := by decide +kernel
theorem dX0_howManyHome_5 : decode cX0_howManyHome 5 = .ok (.aload_n 0, 1) := by decide +kernel
theorem dX0_howManyHome_6 : decode cX0_howManyHome 6 = .ok (.getfield 29, 3) := by decide +kernel
theorem dX0_howManyHome_9 : decode cX0_howManyHome 9 = .ok (.if_icmp .ge 18, 3) := by decide +kernel
theorem dX0_howManyHome_12 : decode cX0_howManyHome 12 = .ok (.iload_n 1, 1) := by decide +kernel
theorem dX0_howManyHome_13 : decode cX0_howManyHome 13 = .ok (.aload_n 0, 1) := by decide +kernel
theorem dX0_howManyHome_14 : decode cX0_howManyHome 14 = .ok (.getfield 47, 3) := by decide +kernel
theorem dX0_howManyHome_17 : decode cX0_howManyHome 17 = .ok (.iload_n 2, 1) := by decide +kernel
theorem dX0_howManyHome_18 : decode cX0_howManyHome 18 = .ok (.iaload, 1) := by decide +kernel
theorem dX0_howManyHome_19 : decode cX0_howManyHome 19 = .ok (.iadd, 1) := by decide +kernel
theorem dX0_howManyHome_20 : decode cX0_howManyHome 20 = .ok (.istore_n 1, 1) := by decide +kernel
theorem dX0_howManyHome_21 : decode cX0_howManyHome 21 = .ok (.iinc 2 1, 3) := by decide +kernel
theorem dX0_howManyHome_24 : decode cX0_howManyHome 24 = .ok (.goto (-20), 3) := by decide +kernel
theorem dX0_howManyHome_27 : decode cX0_howManyHome 27 = .ok (.iload_n 1, 1) := by decide +kernel
theorem dX0_howManyHome_28 : decode cX0_howManyHome 28 = .ok (.ireturn, 1) := by decide +kernel
theorem dX0_howManyHeld_0 : decode cX0_howManyHeld 0 = .ok (.iconst 0, 1) := by decide +kernel
theorem dX0_howManyHeld_1 : decode cX0_howManyHeld 1 = .ok (.istore_n 1, 1) := by decide +kernel
theorem dX0_howManyHeld_2 : decode cX0_howManyHeld 2 = .ok (.iconst 0, 1) := by decide +kernel
theorem dX0_howManyHeld_3 : decode cX0_howManyHeld 3 = .ok (.istore_n 2, 1) := by decide +kernel
theorem dX0_howManyHeld_4 : decode cX0_howManyHeld 4 = .ok (.iload_n 2, 1) := by decide +kernel
theorem dX0_howManyHeld_5 : decode cX0_howManyHeld 5 = .ok (.bipush 10, 2) := by decide +kernel
theorem dX0_howManyHeld_7 : decode cX0_howManyHeld 7 = .ok (.if_icmp .ge 27, 3) := by decide +kernel
theorem dX0_howManyHeld_10 : decode cX0_howManyHeld 10 = .ok (.iload_n 1, 1) := by decide +kernel
theorem dX0_howManyHeld_11 : decode cX0_howManyHeld 11 = .ok (.aload_n 0, 1) := by decide +kernel
theorem dX0_howManyHeld_12 : decode cX0_howManyHeld 12 = .ok (.getfield 53, 3) := by decide +kernel
theorem dX0_howManyHeld_15 : decode cX0_howManyHeld 15 = .ok (.iload_n 2, 1) := by decide +kernel
theorem dX0_howManyHeld_16 : decode cX0_howManyHeld 16 = .ok (.iaload, 1) := by decide +kernel
theorem dX0_howManyHeld_17 : decode cX0_howManyHeld 17 = .ok (.iconst (-1), 1) := by decide +kernel
theorem dX0_howManyHeld_18 : decode cX0_howManyHeld 18 = .ok (.if_icmp .ne 7, 3) := by decide +kernel
theorem dX0_howManyHeld_21 : decode cX0_howManyHeld 21 = .ok (.iconst 0, 1) := by decide +kernel
theorem dX0_howManyHeld_22 : decode cX0_howManyHeld 22 = .ok (.goto 4, 3) := by decide +kernel
theorem dX0_howManyHeld_25 : decode cX0_howManyHeld 25 = .ok (.iconst 1, 1) := by decide +kernel
theorem dX0_howManyHeld_26 : decode cX0_howManyHeld 26 = .ok (.iadd, 1) := by decide +kernel
theorem dX0_howManyHeld_27 : decode cX0_howManyHeld 27 = .ok (.istore_n 1, 1) := by decide +kernel
theorem dX0_howManyHeld_28 : decode cX0_howManyHeld 28 = .ok (.iinc 2 1, 3) := by decide +kernel
theorem dX0_howManyHeld_31 : decode cX0_howManyHeld 31 = .ok (.goto (-27), 3) := by decide +kernel
theorem dX0_howManyHeld_34 : decode cX0_howManyHeld 34 = .ok (.iload_n 1, 1) := by decide +kernel
theorem dX0_howManyHeld_35 : decode cX0_howManyHeld 35 = .ok (.ireturn, 1) := by decide +kernel
theorem dX1_needs_0 : decode cX1_needs 0 = .ok (.iload_n 2, 1) := by decide +kernel
theorem dX1_needs_1 : decode cX1_needs 1 = .ok (.iconst 3, 1) := by decide +kernel
theorem dX1_needs_2 : decode cX1_needs 2 = .ok (.if_icmp .lt 8, 3) := by decide +kernel
theorem dX1_needs_5 : decode cX1_needs 5 = .ok (.bipush 8, 2) := by decide +kernel
theorem dX1_needs_7 : decode cX1_needs 7 = .ok (.goto 4, 3) := by decide +kernel
theorem dX1_needs_10 : decode cX1_needs 10 = .ok (.iconst 0, 1) := by decide +kernel
theorem dX1_needs_11 : decode cX1_needs 11 = .ok (.istore 4, 2) := by decide +kernel
theorem dX1_needs_13 : decode cX1_needs 13 = .ok (.iconst 0, 1) := by decide +kernel
theorem dX1_needs_14 : decode cX1_needs 14 = .ok (.iload_n 1, 1) := by decide +kernel
theorem dX1_needs_15 : decode cX1_needs 15 = .ok (.iconst 4, 1) := by decide +kernel
theorem dX1_needs_16 : decode cX1_needs 16 = .ok (.iadd, 1) := by decide +kernel
theorem dX1_needs_17 : decode cX1_needs 17 = .ok (.iload 4, 2) := by decide +kernel
theorem dX1_needs_19 : decode cX1_needs 19 = .ok (.isub, 1) := by decide +kernel
theorem dX1_needs_20 : decode cX1_needs 20 = .ok (.invokestatic 7, 3) := by decide +kernel
theorem dX1_needs_23 : decode cX1_needs 23 = .ok (.istore 5, 2) := by decide +kernel
theorem dX1_needs_25 : decode cX1_needs 25 = .ok (.iload_n 0, 1) := by decide +kernel
theorem dX1_needs_26 : decode cX1_needs 26 = .ok (.tableswitch 69 1 6 #[38, 47, 51, 57, 67, 41], 38) := by decide +kernel
theorem dX1_needs_64 : decode cX1_needs 64 = .ok (.iload 5, 2) := by decide +kernel
theorem dX1_needs_66 : decode cX1_needs 66 = .ok (.ireturn, 1) := by decide +kernel
theorem dX1_needs_67 : decode cX1_needs 67 = .ok (.iload 5, 2) := by decide +kernel
theorem dX1_needs_69 : decode cX1_needs 69 = .ok (.bipush 6, 2) := by decide +kernel
theorem dX1_needs_71 : decode cX1_needs 71 = .ok (.iadd, 1) := by decide +kernel
theorem dX1_needs_72 : decode cX1_needs 72 = .ok (.ireturn, 1) := by decide +kernel
theorem dX1_needs_73 : decode cX1_needs 73 = .ok (.iload_n 1, 1) := by decide +kernel
theorem dX1_needs_74 : decode cX1_needs 74 = .ok (.iconst 2, 1) := by decide +kernel
theorem dX1_needs_75 : decode cX1_needs 75 = .ok (.idiv, 1) := by decide +kernel
theorem dX1_needs_76 : decode cX1_needs 76 = .ok (.ireturn, 1) := by decide +kernel
theorem dX1_needs_77 : decode cX1_needs 77 = .ok (.iload_n 1, 1) := by decide +kernel
theorem dX1_needs_78 : decode cX1_needs 78 = .ok (.iconst 2, 1) := by decide +kernel
theorem dX1_needs_79 : decode cX1_needs 79 = .ok (.idiv, 1) := by decide +kernel
theorem dX1_needs_80 : decode cX1_needs 80 = .ok (.iconst 3, 1) := by decide +kernel
theorem dX1_needs_81 : decode cX1_needs 81 = .ok (.iadd, 1) := by decide +kernel
theorem dX1_needs_82 : decode cX1_needs 82 = .ok (.ireturn, 1) := by decide +kernel
theorem dX1_needs_83 : decode cX1_needs 83 = .ok (.iload_n 1, 1) := by decide +kernel
theorem dX1_needs_84 : decode cX1_needs 84 = .ok (.iconst 2, 1) := by decide +kernel
theorem dX1_needs_85 : decode cX1_needs 85 = .ok (.idiv, 1) := by decide +kernel
theorem dX1_needs_86 : decode cX1_needs 86 = .ok (.iconst 3, 1) := by decide +kernel
theorem dX1_needs_87 : decode cX1_needs 87 = .ok (.iadd, 1) := by decide +kernel
theorem dX1_needs_88 : decode cX1_needs 88 = .ok (.iload_n 3, 1) := by decide +kernel
theorem dX1_needs_89 : decode cX1_needs 89 = .ok (.iconst 2, 1) := by decide +kernel
theorem dX1_needs_90 : decode cX1_needs 90 = .ok (.irem, 1) := by decide +kernel
theorem dX1_needs_91 : decode cX1_needs 91 = .ok (.iadd, 1) := by decide +kernel
theorem dX1_needs_92 : decode cX1_needs 92 = .ok (.ireturn, 1) := by decide +kernel
theorem dX1_needs_93 : decode cX1_needs 93 = .ok (.iconst 4, 1) := by decide +kernel
theorem dX1_needs_94 : decode cX1_needs 94 = .ok (.ireturn, 1) := by decide +kernel
theorem dX1_needs_95 : decode cX1_needs 95 = .ok (.iload_n 1, 1) := by decide +kernel
theorem dX1_needs_96 : decode cX1_needs 96 = .ok (.ireturn, 1) := by decide +kernel
theorem dX1_steps_0 : decode cX1_steps 0 = .ok (.iload_n 0, 1) := by decide +kernel
theorem dX1_steps_1 : decode cX1_steps 1 = .ok (.tableswitch 47 1 6 #[39, 41, 43, 47, 45, 39], 39) := by decide +kernel
theorem dX1_steps_40 : decode cX1_steps 40 = .ok (.iconst 1, 1) := by decide +kernel
theorem dX1_steps_41 : decode cX1_steps 41 = .ok (.ireturn, 1) := by decide +kernel
theorem dX1_steps_42 : decode cX1_steps 42 = .ok (.iconst 4, 1) := by decide +kernel
theorem dX1_steps_43 : decode cX1_steps 43 = .ok (.ireturn, 1) := by decide +kernel
theorem dX1_steps_44 : decode cX1_steps 44 = .ok (.iconst 3, 1) := by decide +kernel
theorem dX1_steps_45 : decode cX1_steps 45 = .ok (.ireturn, 1) := by decide +kernel
theorem dX1_steps_46 : decode cX1_steps 46 = .ok (.iconst 5, 1) := by decide +kernel
theorem dX1_steps_47 : decode cX1_steps 47 = .ok (.ireturn, 1) := by decide +kernel
theorem dX1_steps_48 : decode cX1_steps 48 = .ok (.iconst 2, 1) := by decide +kernel
theorem dX1_steps_49 : decode cX1_steps 49 = .ok (.ireturn, 1) := by decide +kernel
theorem dX1_laughs_0 : decode cX1_laughs 0 = .ok (.iload_n 0, 1) := by decide +kernel
theorem dX1_laughs_1 : decode cX1_laughs 1 = .ok (.tableswitch 56 1 6 #[39, 44, 50, 52, 54, 41], 39) := by decide +kernel
theorem dX1_laughs_40 : decode cX1_laughs 40 = .ok (.iconst 5, 1) := by decide +kernel
theorem dX1_laughs_41 : decode cX1_laughs 41 = .ok (.ireturn, 1) := by decide +kernel
theorem dX1_laughs_42 : decode cX1_laughs 42 = .ok (.bipush 50, 2) := by decide +kernel
theorem dX1_laughs_44 : decode cX1_laughs 44 = .ok (.ireturn, 1) := by decide +kernel
theorem dX1_laughs_45 : decode cX1_laughs 45 = .ok (.iconst 3, 1) := by decide +kernel
theorem dX1_laughs_46 : decode cX1_laughs 46 = .ok (.iload_n 1, 1) := by decide +kernel
theorem dX1_laughs_47 : decode cX1_laughs 47 = .ok (.iconst 3, 1) := by decide +kernel
theorem dX1_laughs_48 : decode cX1_laughs 48 = .ok (.irem, 1) := by decide +kernel
theorem dX1_laughs_49 : decode cX1_laughs 49 = .ok (.iadd, 1) := by decide +kernel
theorem dX1_laughs_50 : decode cX1_laughs 50 = .ok (.ireturn, 1) := by decide +kernel
theorem dX1_laughs_51 : decode cX1_laughs 51 = .ok (.iconst 0, 1) := by decide +kernel
theorem dX1_laughs_52 : decode cX1_laughs 52 = .ok (.ireturn, 1) := by decide +kernel
theorem dX1_laughs_53 : decode cX1_laughs 53 = .ok (.iconst 1, 1) := by decide +kernel
theorem dX1_laughs_54 : decode cX1_laughs 54 = .ok (.ireturn, 1) := by decide +kernel
theorem dX1_laughs_55 : decode cX1_laughs 55 = .ok (.iconst 2, 1) := by decide +kernel
theorem dX1_laughs_56 : decode cX1_laughs 56 = .ok (.ireturn, 1) := by decide +kernel
theorem dX1_laughs_57 : decode cX1_laughs 57 = .ok (.iconst 3, 1) := by decide +kernel
theorem dX1_laughs_58 : decode cX1_laughs 58 = .ok (.ireturn, 1) := by decide +kernel
theorem dX1_laces_0 : decode cX1_laces 0 = .ok (.iload_n 0, 1) := by decide +kernel
