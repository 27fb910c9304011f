theorem dX5_init_0 : decode cX5_init 0 = .ok (.aload_n 0, 1) := by decide +kernel
theorem dX5_init_1 : decode cX5_init 1 = .ok (.invokespecial 1, 3) := by decide +kernel
theorem dX5_init_4 : decode cX5_init 4 = .ok (.aload_n 0, 1) := by decide +kernel
theorem dX5_init_5 : decode cX5_init 5 = .ok (.bipush 86, 2) := by decide +kernel
theorem dX5_init_7 : decode cX5_init 7 = .ok (.newarray .int, 2) := by decide +kernel
theorem dX5_init_9 : decode cX5_init 9 = .ok (.putfield 9, 3) := by decide +kernel
theorem dX5_init_12 : decode cX5_init 12 = .ok (.aload_n 0, 1) := by decide +kernel
theorem dX5_init_13 : decode cX5_init 13 = .ok (.bipush 86, 2) := by decide +kernel
theorem dX5_init_15 : decode cX5_init 15 = .ok (.newarray .int, 2) := by decide +kernel
theorem dX5_init_17 : decode cX5_init 17 = .ok (.putfield 13, 3) := by decide +kernel
theorem dX5_init_20 : decode cX5_init 20 = .ok (.aload_n 0, 1) := by decide +kernel
theorem dX5_init_21 : decode cX5_init 21 = .ok (.bipush 86, 2) := by decide +kernel
theorem dX5_init_23 : decode cX5_init 23 = .ok (.newarray .int, 2) := by decide +kernel
theorem dX5_init_25 : decode cX5_init 25 = .ok (.putfield 16, 3) := by decide +kernel
theorem dX5_init_28 : decode cX5_init 28 = .ok (.aload_n 0, 1) := by decide +kernel
theorem dX5_init_29 : decode cX5_init 29 = .ok (.bipush 8, 2) := by decide +kernel
theorem dX5_init_31 : decode cX5_init 31 = .ok (.newarray .int, 2) := by decide +kernel
theorem dX5_init_33 : decode cX5_init 33 = .ok (.putfield 19, 3) := by decide +kernel
theorem dX5_init_36 : decode cX5_init 36 = .ok (.aload_n 0, 1) := by decide +kernel
theorem dX5_init_37 : decode cX5_init 37 = .ok (.bipush 120, 2) := by decide +kernel
theorem dX5_init_39 : decode cX5_init 39 = .ok (.newarray .int, 2) := by decide +kernel
theorem dX5_init_41 : decode cX5_init 41 = .ok (.putfield 22, 3) := by decide +kernel
theorem dX5_init_44 : decode cX5_init 44 = .ok (.aload_n 0, 1) := by decide +kernel
theorem dX5_init_45 : decode cX5_init 45 = .ok (.bipush 7, 2) := by decide +kernel
theorem dX5_init_47 : decode cX5_init 47 = .ok (.anewarray 25, 3) := by decide +kernel
theorem dX5_init_50 : decode cX5_init 50 = .ok (.dup, 1) := by decide +kernel
theorem dX5_init_51 : decode cX5_init 51 = .ok (.iconst 0, 1) := by decide +kernel
theorem dX5_init_52 : decode cX5_init 52 = .ok (.ldc 27, 2) := by decide +kernel
theorem dX5_init_54 : decode cX5_init 54 = .ok (.aastore, 1) := by decide +kernel
theorem dX5_init_55 : decode cX5_init 55 = .ok (.dup, 1) := by decide +kernel
theorem dX5_init_56 : decode cX5_init 56 = .ok (.iconst 1, 1) := by decide +kernel
theorem dX5_init_57 : decode cX5_init 57 = .ok (.ldc 29, 2) := by decide +kernel
theorem dX5_init_59 : decode cX5_init 59 = .ok (.aastore, 1) := by decide +kernel
theorem dX5_init_60 : decode cX5_init 60 = .ok (.dup, 1) := by decide +kernel
theorem dX5_init_61 : decode cX5_init 61 = .ok (.iconst 2, 1) := by decide +kernel
theorem dX5_init_62 : decode cX5_init 62 = .ok (.ldc 31, 2) := by decide +kernel
theorem dX5_init_64 : decode cX5_init 64 = .ok (.aastore, 1) := by decide +kernel
theorem dX5_init_65 : decode cX5_init 65 = .ok (.dup, 1) := by decide +kernel
theorem dX5_init_66 : decode cX5_init 66 = .ok (.iconst 3, 1) := by decide +kernel
theorem dX5_init_67 : decode cX5_init 67 = .ok (.ldc 33, 2) := by decide +kernel
theorem dX5_init_69 : decode cX5_init 69 = .ok (.aastore, 1) := by decide +kernel
theorem dX5_init_70 : decode cX5_init 70 = .ok (.dup, 1) := by decide +kernel
theorem dX5_init_71 : decode cX5_init 71 = .ok (.iconst 4, 1) := by decide +kernel
theorem dX5_init_72 : decode cX5_init 72 = .ok (.ldc 35, 2) := by decide +kernel
theorem dX5_init_74 : decode cX5_init 74 = .ok (.aastore, 1) := by decide +kernel
theorem dX5_init_75 : decode cX5_init 75 = .ok (.dup, 1) := by decide +kernel
theorem dX5_init_76 : decode cX5_init 76 = .ok (.iconst 5, 1) := by decide +kernel
theorem dX5_init_77 : decode cX5_init 77 = .ok (.ldc 37, 2) := by decide +kernel
theorem dX5_init_79 : decode cX5_init 79 = .ok (.aastore, 1) := by decide +kernel
theorem dX5_init_80 : decode cX5_init 80 = .ok (.dup, 1) := by decide +kernel
theorem dX5_init_81 : decode cX5_init 81 = .ok (.bipush 6, 2) := by decide +kernel
theorem dX5_init_83 : decode cX5_init 83 = .ok (.ldc 39, 2) := by decide +kernel
theorem dX5_init_85 : decode cX5_init 85 = .ok (.aastore, 1) := by decide +kernel
theorem dX5_init_86 : decode cX5_init 86 = .ok (.putfield 41, 3) := by decide +kernel
theorem dX5_init_89 : decode cX5_init 89 = .ok (.aload_n 0, 1) := by decide +kernel
theorem dX5_init_90 : decode cX5_init 90 = .ok (.sipush 480, 3) := by decide +kernel
theorem dX5_init_93 : decode cX5_init 93 = .ok (.newarray .int, 2) := by decide +kernel
theorem dX5_init_95 : decode cX5_init 95 = .ok (.putfield 45, 3) := by decide +kernel
theorem dX5_init_98 : decode cX5_init 98 = .ok (.aload_n 0, 1) := by decide +kernel
theorem dX5_init_99 : decode cX5_init 99 = .ok (.iconst 4, 1) := by decide +kernel
theorem dX5_init_100 : decode cX5_init 100 = .ok (.newarray .int, 2) := by decide +kernel
theorem dX5_init_102 : decode cX5_init 102 = .ok (.putfield 48, 3) := by decide +kernel
theorem dX5_init_105 : decode cX5_init 105 = .ok (.aload_n 0, 1) := by decide +kernel
theorem dX5_init_106 : decode cX5_init 106 = .ok (.iconst 4, 1) := by decide +kernel
theorem dX5_init_107 : decode cX5_init 107 = .ok (.newarray .int, 2) := by decide +kernel
theorem dX5_init_109 : decode cX5_init 109 = .ok (.putfield 51, 3) := by decide +kernel
theorem dX5_init_112 : decode cX5_init 112 = .ok (.aload_n 0, 1) := by decide +kernel
theorem dX5_init_113 : decode cX5_init 113 = .ok (.sipush 160, 3) := by decide +kernel
theorem dX5_init_116 : decode cX5_init 116 = .ok (.newarray .int, 2) := by decide +kernel
theorem dX5_init_118 : decode cX5_init 118 = .ok (.putfield 54, 3) := by decide +kernel
theorem dX5_init_121 : decode cX5_init 121 = .ok (.aload_n 0, 1) := by decide +kernel
theorem dX5_init_122 : decode cX5_init 122 = .ok (.bipush 40, 2) := by decide +kernel
theorem dX5_init_124 : decode cX5_init 124 = .ok (.newarray .int, 2) := by decide +kernel
theorem dX5_init_126 : decode cX5_init 126 = .ok (.putfield 57, 3) := by decide +kernel
theorem dX5_init_129 : decode cX5_init 129 = .ok (.aload_n 0, 1) := by decide +kernel
theorem dX5_init_130 : decode cX5_init 130 = .ok (.getfield 9, 3) := by decide +kernel
theorem dX5_init_133 : decode cX5_init 133 = .ok (.iconst 2, 1) := by decide +kernel
theorem dX5_init_134 : decode cX5_init 134 = .ok (.iconst 1, 1) := by decide +kernel
theorem dX5_init_135 : decode cX5_init 135 = .ok (.iastore, 1) := by decide +kernel
theorem dX5_init_136 : decode cX5_init 136 = .ok (.aload_n 0, 1) := by decide +kernel
theorem dX5_init_137 : decode cX5_init 137 = .ok (.getfield 9, 3) := by decide +kernel
theorem dX5_init_140 : decode cX5_init 140 = .ok (.iconst 3, 1) := by decide +kernel
theorem dX5_init_141 : decode cX5_init 141 = .ok (.sipush 200, 3) := by decide +kernel
theorem dX5_init_144 : decode cX5_init 144 = .ok (.iastore, 1) := by decide +kernel
theorem dX5_init_145 : decode cX5_init 145 = .ok (.iconst 0, 1) := by decide +kernel
theorem dX5_init_146 : decode cX5_init 146 = .ok (.istore_n 1, 1) := by decide +kernel
theorem dX5_init_147 : decode cX5_init 147 = .ok (.iload_n 1, 1) := by decide +kernel
theorem dX5_init_148 : decode cX5_init 148 = .ok (.bipush 6, 2) := by decide +kernel
theorem dX5_init_150 : decode cX5_init 150 = .ok (.if_icmp .ge 20, 3) := by decide +kernel
theorem dX5_init_153 : decode cX5_init 153 = .ok (.aload_n 0, 1) := by decide +kernel
theorem dX5_init_154 : decode cX5_init 154 = .ok (.getfield 9, 3) := by decide +kernel
theorem dX5_init_157 : decode cX5_init 157 = .ok (.bipush 6, 2) := by decide +kernel
theorem dX5_init_159 : decode cX5_init 159 = .ok (.iload_n 1, 1) := by decide +kernel
theorem dX5_init_160 : decode cX5_init 160 = .ok (.iadd, 1) := by decide +kernel
theorem dX5_init_161 : decode cX5_init 161 = .ok (.bipush 26, 2) := by decide +kernel
theorem dX5_init_163 : decode cX5_init 163 = .ok (.iastore, 1) := by decide +kernel
theorem dX5_init_164 : decode cX5_init 164 = .ok (.iinc 1 1, 3) := by decide +kernel
theorem dX5_init_167 : decode cX5_init 167 = .ok (.goto (-20), 3) := by decide +kernel
theorem dX5_init_170 : decode cX5_init 170 = .ok (.iconst 0, 1) := by decide +kernel
theorem dX5_init_171 : decode cX5_init 171 = .ok (.istore_n 1, 1) := by decide +kernel
theorem dX5_init_172 : decode cX5_init 172 = .ok (.iload_n 1, 1) := by decide +kernel
theorem dX5_init_173 : decode cX5_init 173 = .ok (.bipush 16, 2) := by decide +kernel
theorem dX5_init_175 : decode cX5_init 175 = .ok (.if_icmp .ge 20, 3) := by decide +kernel
theorem dX5_init_178 : decode cX5_init 178 = .ok (.aload_n 0, 1) := by decide +kernel
theorem dX5_init_179 : decode cX5_init 179 = .ok (.getfield 9, 3) := by decide +kernel
theorem dX5_init_182 : decode cX5_init 182 = .ok (.bipush 12, 2) := by decide +kernel
theorem dX5_init_184 : decode cX5_init 184 = .ok (.iload_n 1, 1) := by decide +kernel
theorem dX5_init_185 : decode cX5_init 185 = .ok (.iadd, 1) := by decide +kernel
theorem dX5_init_186 : decode cX5_init 186 = .ok (.bipush 20, 2) := by decide +kernel
theorem dX5_init_188 : decode cX5_init 188 = .ok (.iastore, 1) := by decide +kernel
theorem dX5_init_189 : decode cX5_init 189 = .ok (.iinc 1 1, 3) := by decide +kernel
theorem dX5_init_192 : decode cX5_init 192 = .ok (.goto (-20), 3) := by decide +kernel
theorem dX5_init_195 : decode cX5_init 195 = .ok (.iconst 0, 1) := by decide +kernel
theorem dX5_init_196 : decode cX5_init 196 = .ok (.istore_n 1, 1) := by decide +kernel
theorem dX5_init_197 : decode cX5_init 197 = .ok (.iload_n 1, 1) := by decide +kernel
theorem dX5_init_198 : decode cX5_init 198 = .ok (.bipush 10, 2) := by decide +kernel
theorem dX5_init_200 : decode cX5_init 200 = .ok (.if_icmp .ge 19, 3) := by decide +kernel
theorem dX5_init_203 : decode cX5_init 203 = .ok (.aload_n 0, 1) := by decide +kernel
theorem dX5_init_204 : decode cX5_init 204 = .ok (.getfield 9, 3) := by decide +kernel
theorem dX5_init_207 : decode cX5_init 207 = .ok (.bipush 28, 2) := by decide +kernel
theorem dX5_init_209 : decode cX5_init 209 = .ok (.iload_n 1, 1) := by decide +kernel
theorem dX5_init_210 : decode cX5_init 210 = .ok (.iadd, 1) := by decide +kernel
theorem dX5_init_211 : decode cX5_init 211 = .ok (.iconst (-1), 1) := by decide +kernel
theorem dX5_init_212 : decode cX5_init 212 = .ok (.iastore, 1) := by decide +kernel
theorem dX5_init_213 : decode cX5_init 213 = .ok (.iinc 1 1, 3) := by decide +kernel
theorem dX5_init_216 : decode cX5_init 216 = .ok (.goto (-19), 3) := by decide +kernel
theorem dX5_init_219 : decode cX5_init 219 = .ok (.return_, 1) := by decide +kernel
theorem dX5_finding_0 : decode cX5_finding 0 = .ok (.aload_n 0, 1) := by decide +kernel
theorem dX5_finding_1 : decode cX5_finding 1 = .ok (.getfield 19, 3) := by decide +kernel
theorem dX5_finding_4 : decode cX5_finding 4 = .ok (.ldc 60, 2) := by decide +kernel
theorem dX5_finding_6 : decode cX5_finding 6 = .ok (.iload_n 1, 1) := by decide +kernel
theorem dX5_finding_7 : decode cX5_finding 7 = .ok (.isub, 1) := by decide +kernel
theorem dX5_finding_8 : decode cX5_finding 8 = .ok (.iconst 1, 1) := by decide +kernel
theorem dX5_finding_9 : decode cX5_finding 9 = .ok (.iadd, 1) := by decide +kernel
theorem dX5_finding_10 : decode cX5_finding 10 = .ok (.dup2, 1) := by decide +kernel
theorem dX5_finding_11 : decode cX5_finding 11 = .ok (.iaload, 1) := by decide +kernel
theorem dX5_finding_12 : decode cX5_finding 12 = .ok (.iconst 1, 1) := by decide +kernel
theorem dX5_finding_13 : decode cX5_finding 13 = .ok (.iadd, 1) := by decide +kernel
theorem dX5_finding_14 : decode cX5_finding 14 = .ok (.iastore, 1) := by decide +kernel
theorem dX5_finding_15 : decode cX5_finding 15 = .ok (.aload_n 0, 1) := by decide +kernel
theorem dX5_finding_16 : decode cX5_finding 16 = .ok (.getfield 19, 3) := by decide +kernel
theorem dX5_finding_19 : decode cX5_finding 19 = .ok (.iconst 0, 1) := by decide +kernel
theorem dX5_finding_20 : decode cX5_finding 20 = .ok (.dup2, 1) := by decide +kernel
theorem dX5_finding_21 : decode cX5_finding 21 = .ok (.iaload, 1) := by decide +kernel
theorem dX5_finding_22 : decode cX5_finding 22 = .ok (.iconst 1, 1) := by decide +kernel
theorem dX5_finding_23 : decode cX5_finding 23 = .ok (.iadd, 1) := by decide +kernel
theorem dX5_finding_24 : decode cX5_finding 24 = .ok (.iastore, 1) := by decide +kernel
theorem dX5_finding_25 : decode cX5_finding 25 = .ok (.iload_n 1, 1) := by decide +kernel
theorem dX5_finding_26 : decode cX5_finding 26 = .ok (.ireturn, 1) := by decide +kernel
theorem dX5_within_0 : decode cX5_within 0 = .ok (.iload_n 0, 1) := by decide +kernel
theorem dX5_within_1 : decode cX5_within 1 = .ok (.iload_n 1, 1) := by decide +kernel
theorem dX5_within_2 : decode cX5_within 2 = .ok (.if_icmp .lt 12, 3) := by decide +kernel
theorem dX5_within_5 : decode cX5_within 5 = .ok (.iload_n 0, 1) := by decide +kernel
theorem dX5_within_6 : decode cX5_within 6 = .ok (.iload_n 2, 1) := by decide +kernel
theorem dX5_within_7 : decode cX5_within 7 = .ok (.if_icmp .gt 7, 3) := by decide +kernel
theorem dX5_within_10 : decode cX5_within 10 = .ok (.iconst 1, 1) := by decide +kernel
theorem dX5_within_11 : decode cX5_within 11 = .ok (.goto 4, 3) := by decide +kernel
theorem dX5_within_14 : decode cX5_within 14 = .ok (.iconst 0, 1) := by decide +kernel
theorem dX5_within_15 : decode cX5_within 15 = .ok (.ireturn, 1) := by decide +kernel
theorem dX5_become_0 : decode cX5_become 0 = .ok (.aload_n 0, 1) := by decide +kernel
theorem dX5_become_1 : decode cX5_become 1 = .ok (.getfield 9, 3) := by decide +kernel
theorem dX5_become_4 : decode cX5_become 4 = .ok (.iload_n 1, 1) := by decide +kernel
theorem dX5_become_5 : decode cX5_become 5 = .ok (.iaload, 1) := by decide +kernel
theorem dX5_become_6 : decode cX5_become 6 = .ok (.istore_n 3, 1) := by decide +kernel
theorem dX5_become_7 : decode cX5_become 7 = .ok (.aload_n 0, 1) := by decide +kernel
theorem dX5_become_8 : decode cX5_become 8 = .ok (.getfield 9, 3) := by decide +kernel
theorem dX5_become_11 : decode cX5_become 11 = .ok (.iload_n 1, 1) := by decide +kernel
theorem dX5_become_12 : decode cX5_become 12 = .ok (.iload_n 2, 1) := by decide +kernel
theorem dX5_become_13 : decode cX5_become 13 = .ok (.iastore, 1) := by decide +kernel
theorem dX5_become_14 : decode cX5_become 14 = .ok (.iload_n 3, 1) := by decide +kernel
theorem dX5_become_15 : decode cX5_become 15 = .ok (.ireturn, 1) := by decide +kernel
theorem dX5_copyRow_0 : decode cX5_copyRow 0 = .ok (.iconst 0, 1) := by decide +kernel
theorem dX5_copyRow_1 : decode cX5_copyRow 1 = .ok (.istore_n 2, 1) := by decide +kernel
theorem dX5_copyRow_2 : decode cX5_copyRow 2 = .ok (.iload_n 2, 1) := by decide +kernel
theorem dX5_copyRow_3 : decode cX5_copyRow 3 = .ok (.bipush 86, 2) := by decide +kernel
theorem dX5_copyRow_5 : decode cX5_copyRow 5 = .ok (.if_icmp .ge 15, 3) := by decide +kernel
theorem dX5_copyRow_8 : decode cX5_copyRow 8 = .ok (.aload_n 1, 1) := by decide +kernel
theorem dX5_copyRow_9 : decode cX5_copyRow 9 = .ok (.iload_n 2, 1) := by decide +kernel
theorem dX5_copyRow_10 : decode cX5_copyRow 10 = .ok (.aload_n 0, 1) := by decide +kernel
theorem dX5_copyRow_11 : decode cX5_copyRow 11 = .ok (.iload_n 2, 1) := by decide +kernel
theorem dX5_copyRow_12 : decode cX5_copyRow 12 = .ok (.iaload, 1) := by decide +kernel
theorem dX5_copyRow_13 : decode cX5_copyRow 13 = .ok (.iastore, 1) := by decide +kernel
theorem dX5_copyRow_14 : decode cX5_copyRow 14 = .ok (.iinc 2 1, 3) := by decide +kernel
theorem dX5_copyRow_17 : decode cX5_copyRow 17 = .ok (.goto (-15), 3) := by decide +kernel
theorem dX5_copyRow_20 : decode cX5_copyRow 20 = .ok (.return_, 1) := by decide +kernel
theorem dX5_putBack_0 : decode cX5_putBack 0 = .ok (.aload_n 0, 1) := by decide +kernel
theorem dX5_putBack_1 : decode cX5_putBack 1 = .ok (.getfield 16, 3) := by decide +kernel
theorem dX5_putBack_4 : decode cX5_putBack 4 = .ok (.aload_n 0, 1) := by decide +kernel
theorem dX5_putBack_5 : decode cX5_putBack 5 = .ok (.getfield 9, 3) := by decide +kernel
theorem dX5_putBack_8 : decode cX5_putBack 8 = .ok (.invokestatic 61, 3) := by decide +kernel
theorem dX5_putBack_11 : decode cX5_putBack 11 = .ok (.iload_n 1, 1) := by decide +kernel
theorem dX5_putBack_12 : decode cX5_putBack 12 = .ok (.ireturn, 1) := by decide +kernel
theorem dX5_orNone_0 : decode cX5_orNone 0 = .ok (.iload_n 1, 1) := by decide +kernel
theorem dX5_orNone_1 : decode cX5_orNone 1 = .ok (.ifCond .ge 12, 3) := by decide +kernel
theorem dX5_orNone_4 : decode cX5_orNone 4 = .ok (.aload_n 0, 1) := by decide +kernel
theorem dX5_orNone_5 : decode cX5_orNone 5 = .ok (.ldc 65, 2) := by decide +kernel
theorem dX5_orNone_7 : decode cX5_orNone 7 = .ok (.invokevirtual 66, 3) := by decide +kernel
theorem dX5_orNone_10 : decode cX5_orNone 10 = .ok (.goto 4, 3) := by decide +kernel
theorem dX5_orNone_13 : decode cX5_orNone 13 = .ok (.iload_n 1, 1) := by decide +kernel
theorem dX5_orNone_14 : decode cX5_orNone 14 = .ok (.ireturn, 1) := by decide +kernel
theorem dX5_bits_0 : decode cX5_bits 0 = .ok (.iconst 0, 1) := by decide +kernel
theorem dX5_bits_1 : decode cX5_bits 1 = .ok (.istore_n 1, 1) := by decide +kernel
theorem dX5_bits_2 : decode cX5_bits 2 = .ok (.iload_n 0, 1) := by decide +kernel
theorem dX5_bits_3 : decode cX5_bits 3 = .ok (.istore_n 2, 1) := by decide +kernel
theorem dX5_bits_4 : decode cX5_bits 4 = .ok (.iload_n 2, 1) := by decide +kernel
theorem dX5_bits_5 : decode cX5_bits 5 = .ok (.ifCond .eq 15, 3) := by decide +kernel
theorem dX5_bits_8 : decode cX5_bits 8 = .ok (.iinc 1 1, 3) := by decide +kernel
theorem dX5_bits_11 : decode cX5_bits 11 = .ok (.iload_n 2, 1) := by decide +kernel
theorem dX5_bits_12 : decode cX5_bits 12 = .ok (.iload_n 2, 1) := by decide +kernel
theorem dX5_bits_13 : decode cX5_bits 13 = .ok (.iconst 1, 1) := by decide +kernel
theorem dX5_bits_14 : decode cX5_bits 14 = .ok (.isub, 1) := by decide +kernel
theorem dX5_bits_15 : decode cX5_bits 15 = .ok (.iand, 1) := by decide +kernel
theorem dX5_bits_16 : decode cX5_bits 16 = .ok (.istore_n 2, 1) := by decide +kernel
theorem dX5_bits_17 : decode cX5_bits 17 = .ok (.goto (-13), 3) := by decide +kernel
theorem dX5_bits_20 : decode cX5_bits 20 = .ok (.iload_n 1, 1) := by decide +kernel
theorem dX5_bits_21 : decode cX5_bits 21 = .ok (.ireturn, 1) := by decide +kernel
theorem dX5_isCell_0 : decode cX5_isCell 0 = .ok (.iload_n 0, 1) := by decide +kernel
theorem dX5_isCell_1 : decode cX5_isCell 1 = .ok (.iconst 0, 1) := by decide +kernel
theorem dX5_isCell_2 : decode cX5_isCell 2 = .ok (.bipush 15, 2) := by decide +kernel
theorem dX5_isCell_4 : decode cX5_isCell 4 = .ok (.invokestatic 70, 3) := by decide +kernel
theorem dX5_isCell_7 : decode cX5_isCell 7 = .ok (.ireturn, 1) := by decide +kernel
theorem dX5_isMeasure_0 : decode cX5_isMeasure 0 = .ok (.iload_n 0, 1) := by decide +kernel
theorem dX5_isMeasure_1 : decode cX5_isMeasure 1 = .ok (.bipush 16, 2) := by decide +kernel
theorem dX5_isMeasure_3 : decode cX5_isMeasure 3 = .ok (.bipush 36, 2) := by decide +kernel
theorem dX5_isMeasure_5 : decode cX5_isMeasure 5 = .ok (.invokestatic 70, 3) := by decide +kernel
theorem dX5_isMeasure_8 : decode cX5_isMeasure 8 = .ok (.ireturn, 1) := by decide +kernel
theorem dX5_isOften_0 : decode cX5_isOften 0 = .ok (.iload_n 0, 1) := by decide +kernel
theorem dX5_isOften_1 : decode cX5_isOften 1 = .ok (.iconst 0, 1) := by decide +kernel
theorem dX5_isOften_2 : decode cX5_isOften 2 = .ok (.sipush 9999, 3) := by decide +kernel
theorem dX5_isOften_5 : decode cX5_isOften 5 = .ok (.invokestatic 70, 3) := by decide +kernel
theorem dX5_isOften_8 : decode cX5_isOften 8 = .ok (.ireturn, 1) := by decide +kernel
theorem dX5_isBase_0 : decode cX5_isBase 0 = .ok (.iload_n 0, 1) := by decide +kernel
theorem dX5_isBase_1 : decode cX5_isBase 1 = .ok (.iconst 0, 1) := by decide +kernel
theorem dX5_isBase_2 : decode cX5_isBase 2 = .ok (.bipush 40, 2) := by decide +kernel
theorem dX5_isBase_4 : decode cX5_isBase 4 = .ok (.invokestatic 70, 3) := by decide +kernel
theorem dX5_isBase_7 : decode cX5_isBase 7 = .ok (.ireturn, 1) := by decide +kernel
theorem dX5_set_0 : decode cX5_set 0 = .ok (.iload_n 1, 1) := by decide +kernel
theorem dX5_set_1 : decode cX5_set 1 = .ok (.ifCond .ne 14, 3) := by decide +kernel
theorem dX5_set_4 : decode cX5_set 4 = .ok (.iload_n 2, 1) := by decide +kernel
theorem dX5_set_5 : decode cX5_set 5 = .ok (.iconst 0, 1) := by decide +kernel
theorem dX5_set_6 : decode cX5_set 6 = .ok (.sipush 999, 3) := by decide +kernel
theorem dX5_set_9 : decode cX5_set 9 = .ok (.invokestatic 70, 3) := by decide +kernel
theorem dX5_set_12 : decode cX5_set 12 = .ok (.goto 34, 3) := by decide +kernel
theorem dX5_set_15 : decode cX5_set 15 = .ok (.iload_n 1, 1) := by decide +kernel
theorem dX5_set_16 : decode cX5_set 16 = .ok (.iconst 1, 1) := by decide +kernel
theorem dX5_set_17 : decode cX5_set 17 = .ok (.if_icmp .ne 10, 3) := by decide +kernel
theorem dX5_set_20 : decode cX5_set 20 = .ok (.iload_n 2, 1) := by decide +kernel
theorem dX5_set_21 : decode cX5_set 21 = .ok (.invokestatic 74, 3) := by decide +kernel
theorem dX5_set_24 : decode cX5_set 24 = .ok (.goto 22, 3) := by decide +kernel
theorem dX5_set_27 : decode cX5_set 27 = .ok (.iload_n 1, 1) := by decide +kernel
theorem dX5_set_28 : decode cX5_set 28 = .ok (.iconst 2, 1) := by decide +kernel
theorem dX5_set_29 : decode cX5_set 29 = .ok (.if_icmp .ne 16, 3) := by decide +kernel
theorem dX5_set_32 : decode cX5_set 32 = .ok (.iload_n 2, 1) := by decide +kernel
theorem dX5_set_33 : decode cX5_set 33 = .ok (.iconst 0, 1) := by decide +kernel
theorem dX5_set_34 : decode cX5_set 34 = .ok (.iconst 1, 1) := by decide +kernel
theorem dX5_set_35 : decode cX5_set 35 = .ok (.invokestatic 70, 3) := by decide +kernel
theorem dX5_set_38 : decode cX5_set 38 = .ok (.ifCond .eq 7, 3) := by decide +kernel
theorem dX5_set_41 : decode cX5_set 41 = .ok (.iconst 1, 1) := by decide +kernel
theorem dX5_set_42 : decode cX5_set 42 = .ok (.goto 4, 3) := by decide +kernel
theorem dX5_set_45 : decode cX5_set 45 = .ok (.iconst 0, 1) := by decide +kernel
theorem dX5_set_46 : decode cX5_set 46 = .ok (.istore_n 3, 1) := by decide +kernel
theorem dX5_set_47 : decode cX5_set 47 = .ok (.iload_n 3, 1) := by decide +kernel
theorem dX5_set_48 : decode cX5_set 48 = .ok (.ifCond .eq 14, 3) := by decide +kernel
theorem dX5_set_51 : decode cX5_set 51 = .ok (.aload_n 0, 1) := by decide +kernel
theorem dX5_set_52 : decode cX5_set 52 = .ok (.iconst 3, 1) := by decide +kernel
theorem dX5_set_53 : decode cX5_set 53 = .ok (.iload_n 1, 1) := by decide +kernel
theorem dX5_set_54 : decode cX5_set 54 = .ok (.iadd, 1) := by decide +kernel
theorem dX5_set_55 : decode cX5_set 55 = .ok (.iload_n 2, 1) := by decide +kernel
theorem dX5_set_56 : decode cX5_set 56 = .ok (.invokevirtual 78, 3) := by decide +kernel
theorem dX5_set_59 : decode cX5_set 59 = .ok (.goto 9, 3) := by decide +kernel
theorem dX5_set_62 : decode cX5_set 62 = .ok (.aload_n 0, 1) := by decide +kernel
theorem dX5_set_63 : decode cX5_set 63 = .ok (.ldc 60, 2) := by decide +kernel
theorem dX5_set_65 : decode cX5_set 65 = .ok (.invokevirtual 66, 3) := by decide +kernel
theorem dX5_set_68 : decode cX5_set 68 = .ok (.ireturn, 1) := by decide +kernel
theorem dX5_cell_0 : decode cX5_cell 0 = .ok (.iload_n 1, 1) := by decide +kernel
theorem dX5_cell_1 : decode cX5_cell 1 = .ok (.invokestatic 82, 3) := by decide +kernel
theorem dX5_cell_4 : decode cX5_cell 4 = .ok (.ifCond .eq 22, 3) := by decide +kernel
theorem dX5_cell_7 : decode cX5_cell 7 = .ok (.iload_n 2, 1) := by decide +kernel
theorem dX5_cell_8 : decode cX5_cell 8 = .ok (.invokestatic 85, 3) := by decide +kernel
theorem dX5_cell_11 : decode cX5_cell 11 = .ok (.ifCond .eq 15, 3) := by decide +kernel
theorem dX5_cell_14 : decode cX5_cell 14 = .ok (.aload_n 0, 1) := by decide +kernel
theorem dX5_cell_15 : decode cX5_cell 15 = .ok (.bipush 12, 2) := by decide +kernel
theorem dX5_cell_17 : decode cX5_cell 17 = .ok (.iload_n 1, 1) := by decide +kernel
theorem dX5_cell_18 : decode cX5_cell 18 = .ok (.iadd, 1) := by decide +kernel
theorem dX5_cell_19 : decode cX5_cell 19 = .ok (.iload_n 2, 1) := by decide +kernel
theorem dX5_cell_20 : decode cX5_cell 20 = .ok (.invokevirtual 78, 3) := by decide +kernel
theorem dX5_cell_23 : decode cX5_cell 23 = .ok (.goto 9, 3) := by decide +kernel
theorem dX5_cell_26 : decode cX5_cell 26 = .ok (.aload_n 0, 1) := by decide +kernel
theorem dX5_cell_27 : decode cX5_cell 27 = .ok (.ldc 60, 2) := by decide +kernel
theorem dX5_cell_29 : decode cX5_cell 29 = .ok (.invokevirtual 66, 3) := by decide +kernel
theorem dX5_cell_32 : decode cX5_cell 32 = .ok (.ireturn, 1) := by decide +kernel
theorem dX5_isPlace_0 : decode cX5_isPlace 0 = .ok (.iload_n 0, 1) := by decide +kernel
theorem dX5_isPlace_1 : decode cX5_isPlace 1 = .ok (.iconst 0, 1) := by decide +kernel
theorem dX5_isPlace_2 : decode cX5_isPlace 2 = .ok (.iconst 5, 1) := by decide +kernel
theorem dX5_isPlace_3 : decode cX5_isPlace 3 = .ok (.invokestatic 70, 3) := by decide +kernel
theorem dX5_isPlace_6 : decode cX5_isPlace 6 = .ok (.ireturn, 1) := by decide +kernel
theorem dX5_measure_0 : decode cX5_measure 0 = .ok (.iload_n 1, 1) := by decide +kernel
theorem dX5_measure_1 : decode cX5_measure 1 = .ok (.invokestatic 88, 3) := by decide +kernel
theorem dX5_measure_4 : decode cX5_measure 4 = .ok (.ifCond .eq 22, 3) := by decide +kernel
theorem dX5_measure_7 : decode cX5_measure 7 = .ok (.iload_n 2, 1) := by decide +kernel
theorem dX5_measure_8 : decode cX5_measure 8 = .ok (.invokestatic 91, 3) := by decide +kernel
theorem dX5_measure_11 : decode cX5_measure 11 = .ok (.ifCond .eq 15, 3) := by decide +kernel
theorem dX5_measure_14 : decode cX5_measure 14 = .ok (.aload_n 0, 1) := by decide +kernel
theorem dX5_measure_15 : decode cX5_measure 15 = .ok (.bipush 6, 2) := by decide +kernel
theorem dX5_measure_17 : decode cX5_measure 17 = .ok (.iload_n 1, 1) := by decide +kernel
theorem dX5_measure_18 : decode cX5_measure 18 = .ok (.iadd, 1) := by decide +kernel
theorem dX5_measure_19 : decode cX5_measure 19 = .ok (.iload_n 2, 1) := by decide +kernel
theorem dX5_measure_20 : decode cX5_measure 20 = .ok (.invokevirtual 78, 3) := by decide +kernel
theorem dX5_measure_23 : decode cX5_measure 23 = .ok (.goto 9, 3) := by decide +kernel
theorem dX5_measure_26 : decode cX5_measure 26 = .ok (.aload_n 0, 1) := by decide +kernel
theorem dX5_measure_27 : decode cX5_measure 27 = .ok (.ldc 60, 2) := by decide +kernel
theorem dX5_measure_29 : decode cX5_measure 29 = .ok (.invokevirtual 66, 3) := by decide +kernel
theorem dX5_measure_32 : decode cX5_measure 32 = .ok (.ireturn, 1) := by decide +kernel
theorem dX5_listed_0 : decode cX5_listed 0 = .ok (.iload_n 1, 1) := by decide +kernel
theorem dX5_listed_1 : decode cX5_listed 1 = .ok (.invokestatic 88, 3) := by decide +kernel
theorem dX5_listed_4 : decode cX5_listed 4 = .ok (.ifCond .eq 15, 3) := by decide +kernel
theorem dX5_listed_7 : decode cX5_listed 7 = .ok (.aload_n 0, 1) := by decide +kernel
theorem dX5_listed_8 : decode cX5_listed 8 = .ok (.getfield 9, 3) := by decide +kernel
theorem dX5_listed_11 : decode cX5_listed 11 = .ok (.bipush 6, 2) := by decide +kernel
theorem dX5_listed_13 : decode cX5_listed 13 = .ok (.iload_n 1, 1) := by decide +kernel
theorem dX5_listed_14 : decode cX5_listed 14 = .ok (.iadd, 1) := by decide +kernel
theorem dX5_listed_15 : decode cX5_listed 15 = .ok (.iaload, 1) := by decide +kernel
theorem dX5_listed_16 : decode cX5_listed 16 = .ok (.goto 9, 3) := by decide +kernel
theorem dX5_listed_19 : decode cX5_listed 19 = .ok (.aload_n 0, 1) := by decide +kernel
theorem dX5_listed_20 : decode cX5_listed 20 = .ok (.ldc 60, 2) := by decide +kernel
theorem dX5_listed_22 : decode cX5_listed 22 = .ok (.invokevirtual 66, 3) := by decide +kernel
theorem dX5_listed_25 : decode cX5_listed 25 = .ok (.ireturn, 1) := by decide +kernel
theorem dX5_placeNow_0 : decode cX5_placeNow 0 = .ok (.bipush 6, 2) := by decide +kernel
theorem dX5_placeNow_2 : decode cX5_placeNow 2 = .ok (.aload_n 0, 1) := by decide +kernel
theorem dX5_placeNow_3 : decode cX5_placeNow 3 = .ok (.getfield 9, 3) := by decide +kernel
theorem dX5_placeNow_6 : decode cX5_placeNow 6 = .ok (.iconst 0, 1) := by decide +kernel
theorem dX5_placeNow_7 : decode cX5_placeNow 7 = .ok (.iaload, 1) := by decide +kernel
theorem dX5_placeNow_8 : decode cX5_placeNow 8 = .ok (.bipush 6, 2) := by decide +kernel
theorem dX5_placeNow_10 : decode cX5_placeNow 10 = .ok (.irem, 1) := by decide +kernel
theorem dX5_placeNow_11 : decode cX5_placeNow 11 = .ok (.iadd, 1) := by decide +kernel
theorem dX5_placeNow_12 : decode cX5_placeNow 12 = .ok (.ireturn, 1) := by decide +kernel
theorem dX5_measureNow_0 : decode cX5_measureNow 0 = .ok (.aload_n 0, 1) := by decide +kernel
theorem dX5_measureNow_1 : decode cX5_measureNow 1 = .ok (.getfield 9, 3) := by decide +kernel
theorem dX5_measureNow_4 : decode cX5_measureNow 4 = .ok (.iconst 5, 1) := by decide +kernel
theorem dX5_measureNow_5 : decode cX5_measureNow 5 = .ok (.iaload, 1) := by decide +kernel
theorem dX5_measureNow_6 : decode cX5_measureNow 6 = .ok (.iconst 1, 1) := by decide +kernel
theorem dX5_measureNow_7 : decode cX5_measureNow 7 = .ok (.if_icmp .ne 8, 3) := by decide +kernel
theorem dX5_measureNow_10 : decode cX5_measureNow 10 = .ok (.bipush 36, 2) := by decide +kernel
theorem dX5_measureNow_12 : decode cX5_measureNow 12 = .ok (.goto 12, 3) := by decide +kernel
theorem dX5_measureNow_15 : decode cX5_measureNow 15 = .ok (.aload_n 0, 1) := by decide +kernel
theorem dX5_measureNow_16 : decode cX5_measureNow 16 = .ok (.getfield 9, 3) := by decide +kernel
theorem dX5_measureNow_19 : decode cX5_measureNow 19 = .ok (.aload_n 0, 1) := by decide +kernel
theorem dX5_measureNow_20 : decode cX5_measureNow 20 = .ok (.invokevirtual 94, 3) := by decide +kernel
theorem dX5_measureNow_23 : decode cX5_measureNow 23 = .ok (.iaload, 1) := by decide +kernel
theorem dX5_measureNow_24 : decode cX5_measureNow 24 = .ok (.ireturn, 1) := by decide +kernel
theorem dX5_wideAt_0 : decode cX5_wideAt 0 = .ok (.iconst 0, 1) := by decide +kernel
theorem dX5_wideAt_1 : decode cX5_wideAt 1 = .ok (.aload_n 0, 1) := by decide +kernel
theorem dX5_wideAt_2 : decode cX5_wideAt 2 = .ok (.getfield 9, 3) := by decide +kernel
theorem dX5_wideAt_5 : decode cX5_wideAt 5 = .ok (.bipush 12, 2) := by decide +kernel
theorem dX5_wideAt_7 : decode cX5_wideAt 7 = .ok (.iload_n 1, 1) := by decide +kernel
theorem dX5_wideAt_8 : decode cX5_wideAt 8 = .ok (.iadd, 1) := by decide +kernel
theorem dX5_wideAt_9 : decode cX5_wideAt 9 = .ok (.iaload, 1) := by decide +kernel
theorem dX5_wideAt_10 : decode cX5_wideAt 10 = .ok (.iload_n 2, 1) := by decide +kernel
theorem dX5_wideAt_11 : decode cX5_wideAt 11 = .ok (.iadd, 1) := by decide +kernel
theorem dX5_wideAt_12 : decode cX5_wideAt 12 = .ok (.bipush 26, 2) := by decide +kernel
theorem dX5_wideAt_14 : decode cX5_wideAt 14 = .ok (.isub, 1) := by decide +kernel
theorem dX5_wideAt_15 : decode cX5_wideAt 15 = .ok (.invokestatic 98, 3) := by decide +kernel
theorem dX5_wideAt_18 : decode cX5_wideAt 18 = .ok (.ireturn, 1) := by decide +kernel
theorem dX5_wide_0 : decode cX5_wide 0 = .ok (.iload_n 1, 1) := by decide +kernel
theorem dX5_wide_1 : decode cX5_wide 1 = .ok (.invokestatic 82, 3) := by decide +kernel
theorem dX5_wide_4 : decode cX5_wide 4 = .ok (.ifCond .eq 19, 3) := by decide +kernel
theorem dX5_wide_7 : decode cX5_wide 7 = .ok (.iload_n 2, 1) := by decide +kernel
theorem dX5_wide_8 : decode cX5_wide 8 = .ok (.invokestatic 91, 3) := by decide +kernel
theorem dX5_wide_11 : decode cX5_wide 11 = .ok (.ifCond .eq 12, 3) := by decide +kernel
theorem dX5_wide_14 : decode cX5_wide 14 = .ok (.aload_n 0, 1) := by decide +kernel
theorem dX5_wide_15 : decode cX5_wide 15 = .ok (.iload_n 1, 1) := by decide +kernel
theorem dX5_wide_16 : decode cX5_wide 16 = .ok (.iload_n 2, 1) := by decide +kernel
theorem dX5_wide_17 : decode cX5_wide 17 = .ok (.invokevirtual 103, 3) := by decide +kernel
theorem dX5_wide_20 : decode cX5_wide 20 = .ok (.goto 9, 3) := by decide +kernel
theorem dX5_wide_23 : decode cX5_wide 23 = .ok (.aload_n 0, 1) := by decide +kernel
theorem dX5_wide_24 : decode cX5_wide 24 = .ok (.ldc 60, 2) := by decide +kernel
theorem dX5_wide_26 : decode cX5_wide 26 = .ok (.invokevirtual 66, 3) := by decide +kernel
theorem dX5_wide_29 : decode cX5_wide 29 = .ok (.ireturn, 1) := by decide +kernel
theorem dX5_guestAt_0 : decode cX5_guestAt 0 = .ok (.bipush 38, 2) := by decide +kernel
theorem dX5_guestAt_2 : decode cX5_guestAt 2 = .ok (.bipush 6, 2) := by decide +kernel
theorem dX5_guestAt_4 : decode cX5_guestAt 4 = .ok (.iload_n 0, 1) := by decide +kernel
theorem dX5_guestAt_5 : decode cX5_guestAt 5 = .ok (.imul, 1) := by decide +kernel
theorem dX5_guestAt_6 : decode cX5_guestAt 6 = .ok (.iadd, 1) := by decide +kernel
theorem dX5_guestAt_7 : decode cX5_guestAt 7 = .ok (.iload_n 1, 1) := by decide +kernel
theorem dX5_guestAt_8 : decode cX5_guestAt 8 = .ok (.iadd, 1) := by decide +kernel
theorem dX5_guestAt_9 : decode cX5_guestAt 9 = .ok (.ireturn, 1) := by decide +kernel
theorem dX5_guestIs_0 : decode cX5_guestIs 0 = .ok (.aload_n 0, 1) := by decide +kernel
theorem dX5_guestIs_1 : decode cX5_guestIs 1 = .ok (.getfield 9, 3) := by decide +kernel
theorem dX5_guestIs_4 : decode cX5_guestIs 4 = .ok (.iload_n 1, 1) := by decide +kernel
theorem dX5_guestIs_5 : decode cX5_guestIs 5 = .ok (.iload_n 2, 1) := by decide +kernel
theorem dX5_guestIs_6 : decode cX5_guestIs 6 = .ok (.invokestatic 106, 3) := by decide +kernel
theorem dX5_guestIs_9 : decode cX5_guestIs 9 = .ok (.iaload, 1) := by decide +kernel
theorem dX5_guestIs_10 : decode cX5_guestIs 10 = .ok (.ireturn, 1) := by decide +kernel
theorem dX5_isGuest_0 : decode cX5_isGuest 0 = .ok (.iload_n 1, 1) := by decide +kernel
theorem dX5_isGuest_1 : decode cX5_isGuest 1 = .ok (.iconst 0, 1) := by decide +kernel
theorem dX5_isGuest_2 : decode cX5_isGuest 2 = .ok (.aload_n 0, 1) := by decide +kernel
theorem dX5_isGuest_3 : decode cX5_isGuest 3 = .ok (.getfield 9, 3) := by decide +kernel
theorem dX5_isGuest_6 : decode cX5_isGuest 6 = .ok (.iconst 1, 1) := by decide +kernel
theorem dX5_isGuest_7 : decode cX5_isGuest 7 = .ok (.iaload, 1) := by decide +kernel
theorem dX5_isGuest_8 : decode cX5_isGuest 8 = .ok (.iconst 1, 1) := by decide +kernel
theorem dX5_isGuest_9 : decode cX5_isGuest 9 = .ok (.isub, 1) := by decide +kernel
theorem dX5_isGuest_10 : decode cX5_isGuest 10 = .ok (.invokestatic 70, 3) := by decide +kernel
theorem dX5_isGuest_13 : decode cX5_isGuest 13 = .ok (.ireturn, 1) := by decide +kernel
theorem dX5_isKind_0 : decode cX5_isKind 0 = .ok (.iload_n 0, 1) := by decide +kernel
theorem dX5_isKind_1 : decode cX5_isKind 1 = .ok (.iconst 0, 1) := by decide +kernel
theorem dX5_isKind_2 : decode cX5_isKind 2 = .ok (.bipush 6, 2) := by decide +kernel
theorem dX5_isKind_4 : decode cX5_isKind 4 = .ok (.invokestatic 70, 3) := by decide +kernel
theorem dX5_isKind_7 : decode cX5_isKind 7 = .ok (.ireturn, 1) := by decide +kernel
theorem dX5_comesIn_0 : decode cX5_comesIn 0 = .ok (.aload_n 0, 1) := by decide +kernel
theorem dX5_comesIn_1 : decode cX5_comesIn 1 = .ok (.getfield 9, 3) := by decide +kernel
theorem dX5_comesIn_4 : decode cX5_comesIn 4 = .ok (.iconst 1, 1) := by decide +kernel
theorem dX5_comesIn_5 : decode cX5_comesIn 5 = .ok (.iaload, 1) := by decide +kernel
theorem dX5_comesIn_6 : decode cX5_comesIn 6 = .ok (.istore_n 3, 1) := by decide +kernel
theorem dX5_comesIn_7 : decode cX5_comesIn 7 = .ok (.aload_n 0, 1) := by decide +kernel
theorem dX5_comesIn_8 : decode cX5_comesIn 8 = .ok (.getfield 9, 3) := by decide +kernel
theorem dX5_comesIn_11 : decode cX5_comesIn 11 = .ok (.iload_n 3, 1) := by decide +kernel
theorem dX5_comesIn_12 : decode cX5_comesIn 12 = .ok (.iconst 0, 1) := by decide +kernel
theorem dX5_comesIn_13 : decode cX5_comesIn 13 = .ok (.invokestatic 106, 3) := by decide +kernel
theorem dX5_comesIn_16 : decode cX5_comesIn 16 = .ok (.iload_n 1, 1) := by decide +kernel
theorem dX5_comesIn_17 : decode cX5_comesIn 17 = .ok (.iastore, 1) := by decide +kernel
theorem dX5_comesIn_18 : decode cX5_comesIn 18 = .ok (.aload_n 0, 1) := by decide +kernel
theorem dX5_comesIn_19 : decode cX5_comesIn 19 = .ok (.getfield 9, 3) := by decide +kernel
theorem dX5_comesIn_22 : decode cX5_comesIn 22 = .ok (.iload_n 3, 1) := by decide +kernel
theorem dX5_comesIn_23 : decode cX5_comesIn 23 = .ok (.iconst 1, 1) := by decide +kernel
theorem dX5_comesIn_24 : decode cX5_comesIn 24 = .ok (.invokestatic 106, 3) := by decide +kernel
theorem dX5_comesIn_27 : decode cX5_comesIn 27 = .ok (.iload_n 2, 1) := by decide +kernel
theorem dX5_comesIn_28 : decode cX5_comesIn 28 = .ok (.iastore, 1) := by decide +kernel
theorem dX5_comesIn_29 : decode cX5_comesIn 29 = .ok (.aload_n 0, 1) := by decide +kernel
theorem dX5_comesIn_30 : decode cX5_comesIn 30 = .ok (.getfield 9, 3) := by decide +kernel
theorem dX5_comesIn_33 : decode cX5_comesIn 33 = .ok (.iload_n 3, 1) := by decide +kernel
theorem dX5_comesIn_34 : decode cX5_comesIn 34 = .ok (.iconst 2, 1) := by decide +kernel
theorem dX5_comesIn_35 : decode cX5_comesIn 35 = .ok (.invokestatic 106, 3) := by decide +kernel
theorem dX5_comesIn_38 : decode cX5_comesIn 38 = .ok (.bipush 10, 2) := by decide +kernel
theorem dX5_comesIn_40 : decode cX5_comesIn 40 = .ok (.iastore, 1) := by decide +kernel
theorem dX5_comesIn_41 : decode cX5_comesIn 41 = .ok (.aload_n 0, 1) := by decide +kernel
theorem dX5_comesIn_42 : decode cX5_comesIn 42 = .ok (.getfield 9, 3) := by decide +kernel
theorem dX5_comesIn_45 : decode cX5_comesIn 45 = .ok (.iload_n 3, 1) := by decide +kernel
theorem dX5_comesIn_46 : decode cX5_comesIn 46 = .ok (.iconst 3, 1) := by decide +kernel
theorem dX5_comesIn_47 : decode cX5_comesIn 47 = .ok (.invokestatic 106, 3) := by decide +kernel
theorem dX5_comesIn_50 : decode cX5_comesIn 50 = .ok (.iload_n 2, 1) := by decide +kernel
theorem dX5_comesIn_51 : decode cX5_comesIn 51 = .ok (.iastore, 1) := by decide +kernel
theorem dX5_comesIn_52 : decode cX5_comesIn 52 = .ok (.aload_n 0, 1) := by decide +kernel
theorem dX5_comesIn_53 : decode cX5_comesIn 53 = .ok (.getfield 9, 3) := by decide +kernel
theorem dX5_comesIn_56 : decode cX5_comesIn 56 = .ok (.iload_n 3, 1) := by decide +kernel
theorem dX5_comesIn_57 : decode cX5_comesIn 57 = .ok (.iconst 4, 1) := by decide +kernel
theorem dX5_comesIn_58 : decode cX5_comesIn 58 = .ok (.invokestatic 106, 3) := by decide +kernel
theorem dX5_comesIn_61 : decode cX5_comesIn 61 = .ok (.iconst 0, 1) := by decide +kernel
theorem dX5_comesIn_62 : decode cX5_comesIn 62 = .ok (.iastore, 1) := by decide +kernel
theorem dX5_comesIn_63 : decode cX5_comesIn 63 = .ok (.aload_n 0, 1) := by decide +kernel
theorem dX5_comesIn_64 : decode cX5_comesIn 64 = .ok (.getfield 9, 3) := by decide +kernel
theorem dX5_comesIn_67 : decode cX5_comesIn 67 = .ok (.iload_n 3, 1) := by decide +kernel
theorem dX5_comesIn_68 : decode cX5_comesIn 68 = .ok (.iconst 5, 1) := by decide +kernel
theorem dX5_comesIn_69 : decode cX5_comesIn 69 = .ok (.invokestatic 106, 3) := by decide +kernel
theorem dX5_comesIn_72 : decode cX5_comesIn 72 = .ok (.iconst 0, 1) := by decide +kernel
theorem dX5_comesIn_73 : decode cX5_comesIn 73 = .ok (.iastore, 1) := by decide +kernel
theorem dX5_comesIn_74 : decode cX5_comesIn 74 = .ok (.aload_n 0, 1) := by decide +kernel
theorem dX5_comesIn_75 : decode cX5_comesIn 75 = .ok (.getfield 9, 3) := by decide +kernel
theorem dX5_comesIn_78 : decode cX5_comesIn 78 = .ok (.iconst 1, 1) := by decide +kernel
theorem dX5_comesIn_79 : decode cX5_comesIn 79 = .ok (.dup2, 1) := by decide +kernel
theorem dX5_comesIn_80 : decode cX5_comesIn 80 = .ok (.iaload, 1) := by decide +kernel
theorem dX5_comesIn_81 : decode cX5_comesIn 81 = .ok (.iconst 1, 1) := by decide +kernel
theorem dX5_comesIn_82 : decode cX5_comesIn 82 = .ok (.iadd, 1) := by decide +kernel
theorem dX5_comesIn_83 : decode cX5_comesIn 83 = .ok (.iastore, 1) := by decide +kernel
theorem dX5_comesIn_84 : decode cX5_comesIn 84 = .ok (.iload_n 3, 1) := by decide +kernel
theorem dX5_comesIn_85 : decode cX5_comesIn 85 = .ok (.ireturn, 1) := by decide +kernel
theorem dX5_guest_0 : decode cX5_guest 0 = .ok (.iload_n 1, 1) := by decide +kernel
theorem dX5_guest_1 : decode cX5_guest 1 = .ok (.invokestatic 109, 3) := by decide +kernel
theorem dX5_guest_4 : decode cX5_guest 4 = .ok (.ifCond .eq 10, 3) := by decide +kernel
theorem dX5_guest_7 : decode cX5_guest 7 = .ok (.iload_n 2, 1) := by decide +kernel
theorem dX5_guest_8 : decode cX5_guest 8 = .ok (.invokestatic 82, 3) := by decide +kernel
theorem dX5_guest_11 : decode cX5_guest 11 = .ok (.ifCond .ne 10, 3) := by decide +kernel
theorem dX5_guest_14 : decode cX5_guest 14 = .ok (.aload_n 0, 1) := by decide +kernel
theorem dX5_guest_15 : decode cX5_guest 15 = .ok (.ldc 60, 2) := by decide +kernel
theorem dX5_guest_17 : decode cX5_guest 17 = .ok (.invokevirtual 66, 3) := by decide +kernel
theorem dX5_guest_20 : decode cX5_guest 20 = .ok (.ireturn, 1) := by decide +kernel
theorem dX5_guest_21 : decode cX5_guest 21 = .ok (.aload_n 0, 1) := by decide +kernel
theorem dX5_guest_22 : decode cX5_guest 22 = .ok (.getfield 9, 3) := by decide +kernel
theorem dX5_guest_25 : decode cX5_guest 25 = .ok (.iconst 1, 1) := by decide +kernel
theorem dX5_guest_26 : decode cX5_guest 26 = .ok (.iaload, 1) := by decide +kernel
theorem dX5_guest_27 : decode cX5_guest 27 = .ok (.bipush 8, 2) := by decide +kernel
theorem dX5_guest_29 : decode cX5_guest 29 = .ok (.if_icmp .ne 12, 3) := by decide +kernel
theorem dX5_guest_32 : decode cX5_guest 32 = .ok (.aload_n 0, 1) := by decide +kernel
theorem dX5_guest_33 : decode cX5_guest 33 = .ok (.ldc 112, 2) := by decide +kernel
theorem dX5_guest_35 : decode cX5_guest 35 = .ok (.invokevirtual 66, 3) := by decide +kernel
theorem dX5_guest_38 : decode cX5_guest 38 = .ok (.goto 9, 3) := by decide +kernel
theorem dX5_guest_41 : decode cX5_guest 41 = .ok (.aload_n 0, 1) := by decide +kernel
theorem dX5_guest_42 : decode cX5_guest 42 = .ok (.iload_n 1, 1) := by decide +kernel
theorem dX5_guest_43 : decode cX5_guest 43 = .ok (.iload_n 2, 1) := by decide +kernel
theorem dX5_guest_44 : decode cX5_guest 44 = .ok (.invokevirtual 113, 3) := by decide +kernel
theorem dX5_guest_47 : decode cX5_guest 47 = .ok (.ireturn, 1) := by decide +kernel
theorem dX5_needs_0 : decode cX5_needs 0 = .ok (.aload_n 0, 1) := by decide +kernel
theorem dX5_needs_1 : decode cX5_needs 1 = .ok (.iload_n 1, 1) := by decide +kernel
theorem dX5_needs_2 : decode cX5_needs 2 = .ok (.iconst 2, 1) := by decide +kernel
theorem dX5_needs_3 : decode cX5_needs 3 = .ok (.invokevirtual 116, 3) := by decide +kernel
theorem dX5_needs_6 : decode cX5_needs 6 = .ok (.istore_n 2, 1) := by decide +kernel
theorem dX5_needs_7 : decode cX5_needs 7 = .ok (.iconst 0, 1) := by decide +kernel
theorem dX5_needs_8 : decode cX5_needs 8 = .ok (.aload_n 0, 1) := by decide +kernel
theorem dX5_needs_9 : decode cX5_needs 9 = .ok (.iload_n 1, 1) := by decide +kernel
theorem dX5_needs_10 : decode cX5_needs 10 = .ok (.iconst 4, 1) := by decide +kernel
theorem dX5_needs_11 : decode cX5_needs 11 = .ok (.invokevirtual 116, 3) := by decide +kernel
theorem dX5_needs_14 : decode cX5_needs 14 = .ok (.iconst 3, 1) := by decide +kernel
theorem dX5_needs_15 : decode cX5_needs 15 = .ok (.if_icmp .lt 9, 3) := by decide +kernel
theorem dX5_needs_18 : decode cX5_needs 18 = .ok (.iload_n 2, 1) := by decide +kernel
theorem dX5_needs_19 : decode cX5_needs 19 = .ok (.iconst 4, 1) := by decide +kernel
theorem dX5_needs_20 : decode cX5_needs 20 = .ok (.isub, 1) := by decide +kernel
theorem dX5_needs_21 : decode cX5_needs 21 = .ok (.goto 6, 3) := by decide +kernel
theorem dX5_needs_24 : decode cX5_needs 24 = .ok (.iload_n 2, 1) := by decide +kernel
theorem dX5_needs_25 : decode cX5_needs 25 = .ok (.iconst 4, 1) := by decide +kernel
theorem dX5_needs_26 : decode cX5_needs 26 = .ok (.iadd, 1) := by decide +kernel
theorem dX5_needs_27 : decode cX5_needs 27 = .ok (.invokestatic 98, 3) := by decide +kernel
theorem dX5_needs_30 : decode cX5_needs 30 = .ok (.istore_n 3, 1) := by decide +kernel
theorem dX5_needs_31 : decode cX5_needs 31 = .ok (.aload_n 0, 1) := by decide +kernel
theorem dX5_needs_32 : decode cX5_needs 32 = .ok (.iload_n 1, 1) := by decide +kernel
theorem dX5_needs_33 : decode cX5_needs 33 = .ok (.iconst 0, 1) := by decide +kernel
theorem dX5_needs_34 : decode cX5_needs 34 = .ok (.invokevirtual 116, 3) := by decide +kernel
theorem dX5_needs_37 : decode cX5_needs 37 = .ok (.tableswitch 73 1 6 #[39, 46, 50, 56, 71, 41], 39) := by decide +kernel
theorem dX5_needs_76 : decode cX5_needs 76 = .ok (.iload_n 3, 1) := by decide +kernel
theorem dX5_needs_77 : decode cX5_needs 77 = .ok (.ireturn, 1) := by decide +kernel
theorem dX5_needs_78 : decode cX5_needs 78 = .ok (.iload_n 3, 1) := by decide +kernel
theorem dX5_needs_79 : decode cX5_needs 79 = .ok (.bipush 6, 2) := by decide +kernel
theorem dX5_needs_81 : decode cX5_needs 81 = .ok (.iadd, 1) := by decide +kernel
theorem dX5_needs_82 : decode cX5_needs 82 = .ok (.ireturn, 1) := by decide +kernel
theorem dX5_needs_83 : decode cX5_needs 83 = .ok (.iload_n 2, 1) := by decide +kernel
theorem dX5_needs_84 : decode cX5_needs 84 = .ok (.iconst 2, 1) := by decide +kernel
theorem dX5_needs_85 : decode cX5_needs 85 = .ok (.idiv, 1) := by decide +kernel
theorem dX5_needs_86 : decode cX5_needs 86 = .ok (.ireturn, 1) := by decide +kernel
theorem dX5_needs_87 : decode cX5_needs 87 = .ok (.iload_n 2, 1) := by decide +kernel
theorem dX5_needs_88 : decode cX5_needs 88 = .ok (.iconst 2, 1) := by decide +kernel
theorem dX5_needs_89 : decode cX5_needs 89 = .ok (.idiv, 1) := by decide +kernel
theorem dX5_needs_90 : decode cX5_needs 90 = .ok (.iconst 3, 1) := by decide +kernel
theorem dX5_needs_91 : decode cX5_needs 91 = .ok (.iadd, 1) := by decide +kernel
theorem dX5_needs_92 : decode cX5_needs 92 = .ok (.ireturn, 1) := by decide +kernel
theorem dX5_needs_93 : decode cX5_needs 93 = .ok (.iload_n 2, 1) := by decide +kernel
theorem dX5_needs_94 : decode cX5_needs 94 = .ok (.iconst 2, 1) := by decide +kernel
theorem dX5_needs_95 : decode cX5_needs 95 = .ok (.idiv, 1) := by decide +kernel
theorem dX5_needs_96 : decode cX5_needs 96 = .ok (.iconst 3, 1) := by decide +kernel
theorem dX5_needs_97 : decode cX5_needs 97 = .ok (.iadd, 1) := by decide +kernel
theorem dX5_needs_98 : decode cX5_needs 98 = .ok (.aload_n 0, 1) := by decide +kernel
theorem dX5_needs_99 : decode cX5_needs 99 = .ok (.getfield 9, 3) := by decide +kernel
theorem dX5_needs_102 : decode cX5_needs 102 = .ok (.iconst 0, 1) := by decide +kernel
theorem dX5_needs_103 : decode cX5_needs 103 = .ok (.iaload, 1) := by decide +kernel
theorem dX5_needs_104 : decode cX5_needs 104 = .ok (.iconst 2, 1) := by decide +kernel
theorem dX5_needs_105 : decode cX5_needs 105 = .ok (.irem, 1) := by decide +kernel
theorem dX5_needs_106 : decode cX5_needs 106 = .ok (.iadd, 1) := by decide +kernel
theorem dX5_needs_107 : decode cX5_needs 107 = .ok (.ireturn, 1) := by decide +kernel
theorem dX5_needs_108 : decode cX5_needs 108 = .ok (.iconst 4, 1) := by decide +kernel
theorem dX5_needs_109 : decode cX5_needs 109 = .ok (.ireturn, 1) := by decide +kernel
theorem dX5_needs_110 : decode cX5_needs 110 = .ok (.iload_n 2, 1) := by decide +kernel
theorem dX5_needs_111 : decode cX5_needs 111 = .ok (.ireturn, 1) := by decide +kernel
theorem dX5_steps_0 : decode cX5_steps 0 = .ok (.aload_n 0, 1) := by decide +kernel
theorem dX5_steps_1 : decode cX5_steps 1 = .ok (.iload_n 1, 1) := by decide +kernel
theorem dX5_steps_2 : decode cX5_steps 2 = .ok (.iconst 0, 1) := by decide +kernel
theorem dX5_steps_3 : decode cX5_steps 3 = .ok (.invokevirtual 116, 3) := by decide +kernel
theorem dX5_steps_6 : decode cX5_steps 6 = .ok (.tableswitch 46 1 6 #[38, 40, 42, 46, 44, 38], 38) := by decide +kernel
theorem dX5_steps_44 : decode cX5_steps 44 = .ok (.iconst 1, 1) := by decide +kernel
theorem dX5_steps_45 : decode cX5_steps 45 = .ok (.ireturn, 1) := by decide +kernel
theorem dX5_steps_46 : decode cX5_steps 46 = .ok (.iconst 4, 1) := by decide +kernel
theorem dX5_steps_47 : decode cX5_steps 47 = .ok (.ireturn, 1) := by decide +kernel
theorem dX5_steps_48 : decode cX5_steps 48 = .ok (.iconst 3, 1) := by decide +kernel
theorem dX5_steps_49 : decode cX5_steps 49 = .ok (.ireturn, 1) := by decide +kernel
theorem dX5_steps_50 : decode cX5_steps 50 = .ok (.iconst 5, 1) := by decide +kernel
theorem dX5_steps_51 : decode cX5_steps 51 = .ok (.ireturn, 1) := by decide +kernel
theorem dX5_steps_52 : decode cX5_steps 52 = .ok (.iconst 2, 1) := by decide +kernel
theorem dX5_steps_53 : decode cX5_steps 53 = .ok (.ireturn, 1) := by decide +kernel
theorem dX5_laughs_0 : decode cX5_laughs 0 = .ok (.aload_n 0, 1) := by decide +kernel
theorem dX5_laughs_1 : decode cX5_laughs 1 = .ok (.iload_n 1, 1) := by decide +kernel
theorem dX5_laughs_2 : decode cX5_laughs 2 = .ok (.iconst 0, 1) := by decide +kernel
theorem dX5_laughs_3 : decode cX5_laughs 3 = .ok (.invokevirtual 116, 3) := by decide +kernel
theorem dX5_laughs_6 : decode cX5_laughs 6 = .ok (.tableswitch 60 1 6 #[38, 43, 54, 56, 58, 40], 38) := by decide +kernel
theorem dX5_laughs_44 : decode cX5_laughs 44 = .ok (.iconst 5, 1) := by decide +kernel
theorem dX5_laughs_45 : decode cX5_laughs 45 = .ok (.ireturn, 1) := by decide +kernel
theorem dX5_laughs_46 : decode cX5_laughs 46 = .ok (.bipush 50, 2) := by decide +kernel
theorem dX5_laughs_48 : decode cX5_laughs 48 = .ok (.ireturn, 1) := by decide +kernel
theorem dX5_laughs_49 : decode cX5_laughs 49 = .ok (.iconst 3, 1) := by decide +kernel
theorem dX5_laughs_50 : decode cX5_laughs 50 = .ok (.aload_n 0, 1) := by decide +kernel
theorem dX5_laughs_51 : decode cX5_laughs 51 = .ok (.getfield 9, 3) := by decide +kernel
theorem dX5_laughs_54 : decode cX5_laughs 54 = .ok (.iconst 0, 1) := by decide +kernel
theorem dX5_laughs_55 : decode cX5_laughs 55 = .ok (.iaload, 1) := by decide +kernel
theorem dX5_laughs_56 : decode cX5_laughs 56 = .ok (.iconst 3, 1) := by decide +kernel
theorem dX5_laughs_57 : decode cX5_laughs 57 = .ok (.irem, 1) := by decide +kernel
theorem dX5_laughs_58 : decode cX5_laughs 58 = .ok (.iadd, 1) := by decide +kernel
theorem dX5_laughs_59 : decode cX5_laughs 59 = .ok (.ireturn, 1) := by decide +kernel
theorem dX5_laughs_60 : decode cX5_laughs 60 = .ok (.iconst 0, 1) := by decide +kernel
theorem dX5_laughs_61 : decode cX5_laughs 61 = .ok (.ireturn, 1) := by decide +kernel
theorem dX5_laughs_62 : decode cX5_laughs 62 = .ok (.iconst 1, 1) := by decide +kernel
theorem dX5_laughs_63 : decode cX5_laughs 63 = .ok (.ireturn, 1) := by decide +kernel
theorem dX5_laughs_64 : decode cX5_laughs 64 = .ok (.iconst 2, 1) := by decide +kernel
theorem dX5_laughs_65 : decode cX5_laughs 65 = .ok (.ireturn, 1) := by decide +kernel
theorem dX5_laughs_66 : decode cX5_laughs 66 = .ok (.iconst 3, 1) := by decide +kernel
theorem dX5_laughs_67 : decode cX5_laughs 67 = .ok (.ireturn, 1) := by decide +kernel
theorem dX5_laces_0 : decode cX5_laces 0 = .ok (.aload_n 0, 1) := by decide +kernel
theorem dX5_laces_1 : decode cX5_laces 1 = .ok (.iload_n 1, 1) := by decide +kernel
theorem dX5_laces_2 : decode cX5_laces 2 = .ok (.iconst 0, 1) := by decide +kernel
theorem dX5_laces_3 : decode cX5_laces 3 = .ok (.invokevirtual 116, 3) := by decide +kernel
theorem dX5_laces_6 : decode cX5_laces 6 = .ok (.istore_n 2, 1) := by decide +kernel
theorem dX5_laces_7 : decode cX5_laces 7 = .ok (.iload_n 2, 1) := by decide +kernel
theorem dX5_laces_8 : decode cX5_laces 8 = .ok (.iconst 3, 1) := by decide +kernel
theorem dX5_laces_9 : decode cX5_laces 9 = .ok (.if_icmp .ne 7, 3) := by decide +kernel
theorem dX5_laces_12 : decode cX5_laces 12 = .ok (.iconst 4, 1) := by decide +kernel
theorem dX5_laces_13 : decode cX5_laces 13 = .ok (.goto 14, 3) := by decide +kernel
theorem dX5_laces_16 : decode cX5_laces 16 = .ok (.iload_n 2, 1) := by decide +kernel
theorem dX5_laces_17 : decode cX5_laces 17 = .ok (.iconst 4, 1) := by decide +kernel
theorem dX5_laces_18 : decode cX5_laces 18 = .ok (.if_icmp .ne 8, 3) := by decide +kernel
theorem dX5_laces_21 : decode cX5_laces 21 = .ok (.bipush 8, 2) := by decide +kernel
theorem dX5_laces_23 : decode cX5_laces 23 = .ok (.goto 4, 3) := by decide +kernel
theorem dX5_laces_26 : decode cX5_laces 26 = .ok (.iconst 0, 1) := by decide +kernel
theorem dX5_laces_27 : decode cX5_laces 27 = .ok (.ireturn, 1) := by decide +kernel
theorem dX5_told_0 : decode cX5_told 0 = .ok (.iload_n 2, 1) := by decide +kernel
theorem dX5_told_1 : decode cX5_told 1 = .ok (.tableswitch 55 6 9 #[31, 37, 43, 49], 31) := by decide +kernel
theorem dX5_told_32 : decode cX5_told 32 = .ok (.aload_n 0, 1) := by decide +kernel
theorem dX5_told_33 : decode cX5_told 33 = .ok (.iload_n 1, 1) := by decide +kernel
theorem dX5_told_34 : decode cX5_told 34 = .ok (.invokevirtual 119, 3) := by decide +kernel
theorem dX5_told_37 : decode cX5_told 37 = .ok (.ireturn, 1) := by decide +kernel
theorem dX5_told_38 : decode cX5_told 38 = .ok (.aload_n 0, 1) := by decide +kernel
theorem dX5_told_39 : decode cX5_told 39 = .ok (.iload_n 1, 1) := by decide +kernel
theorem dX5_told_40 : decode cX5_told 40 = .ok (.invokevirtual 122, 3) := by decide +kernel
theorem dX5_told_43 : decode cX5_told 43 = .ok (.ireturn, 1) := by decide +kernel
theorem dX5_told_44 : decode cX5_told 44 = .ok (.aload_n 0, 1) := by decide +kernel
theorem dX5_told_45 : decode cX5_told 45 = .ok (.iload_n 1, 1) := by decide +kernel
theorem dX5_told_46 : decode cX5_told 46 = .ok (.invokevirtual 125, 3) := by decide +kernel
theorem dX5_told_49 : decode cX5_told 49 = .ok (.ireturn, 1) := by decide +kernel
theorem dX5_told_50 : decode cX5_told 50 = .ok (.aload_n 0, 1) := by decide +kernel
theorem dX5_told_51 : decode cX5_told 51 = .ok (.iload_n 1, 1) := by decide +kernel
theorem dX5_told_52 : decode cX5_told 52 = .ok (.invokevirtual 128, 3) := by decide +kernel
theorem dX5_told_55 : decode cX5_told 55 = .ok (.ireturn, 1) := by decide +kernel
theorem dX5_told_56 : decode cX5_told 56 = .ok (.aload_n 0, 1) := by decide +kernel
theorem dX5_told_57 : decode cX5_told 57 = .ok (.iload_n 1, 1) := by decide +kernel
theorem dX5_told_58 : decode cX5_told 58 = .ok (.iload_n 2, 1) := by decide +kernel
theorem dX5_told_59 : decode cX5_told 59 = .ok (.invokevirtual 116, 3) := by decide +kernel
theorem dX5_told_62 : decode cX5_told 62 = .ok (.ireturn, 1) := by decide +kernel
theorem dX5_of_0 : decode cX5_of 0 = .ok (.aload_n 0, 1) := by decide +kernel
theorem dX5_of_1 : decode cX5_of 1 = .ok (.iload_n 1, 1) := by decide +kernel
theorem dX5_of_2 : decode cX5_of 2 = .ok (.invokevirtual 131, 3) := by decide +kernel
theorem dX5_of_5 : decode cX5_of 5 = .ok (.ifCond .eq 22, 3) := by decide +kernel
theorem dX5_of_8 : decode cX5_of 8 = .ok (.iload_n 2, 1) := by decide +kernel
theorem dX5_of_9 : decode cX5_of 9 = .ok (.iconst 0, 1) := by decide +kernel
theorem dX5_of_10 : decode cX5_of 10 = .ok (.bipush 9, 2) := by decide +kernel
theorem dX5_of_12 : decode cX5_of 12 = .ok (.invokestatic 70, 3) := by decide +kernel
theorem dX5_of_15 : decode cX5_of 15 = .ok (.ifCond .eq 12, 3) := by decide +kernel
theorem dX5_of_18 : decode cX5_of 18 = .ok (.aload_n 0, 1) := by decide +kernel
theorem dX5_of_19 : decode cX5_of 19 = .ok (.iload_n 1, 1) := by decide +kernel
theorem dX5_of_20 : decode cX5_of 20 = .ok (.iload_n 2, 1) := by decide +kernel
theorem dX5_of_21 : decode cX5_of 21 = .ok (.invokevirtual 134, 3) := by decide +kernel
theorem dX5_of_24 : decode cX5_of 24 = .ok (.goto 9, 3) := by decide +kernel
theorem dX5_of_27 : decode cX5_of 27 = .ok (.aload_n 0, 1) := by decide +kernel
theorem dX5_of_28 : decode cX5_of 28 = .ok (.ldc 60, 2) := by decide +kernel
theorem dX5_of_30 : decode cX5_of 30 = .ok (.invokevirtual 66, 3) := by decide +kernel
theorem dX5_of_33 : decode cX5_of 33 = .ok (.ireturn, 1) := by decide +kernel
theorem dX5_isField_0 : decode cX5_isField 0 = .ok (.iload_n 0, 1) := by decide +kernel
theorem dX5_isField_1 : decode cX5_isField 1 = .ok (.tableswitch 69 0 5 #[39, 44, 49, 44, 57, 62], 39) := by decide +kernel
theorem dX5_isField_40 : decode cX5_isField 40 = .ok (.iload_n 1, 1) := by decide +kernel
theorem dX5_isField_41 : decode cX5_isField 41 = .ok (.invokestatic 109, 3) := by decide +kernel
theorem dX5_isField_44 : decode cX5_isField 44 = .ok (.ireturn, 1) := by decide +kernel
theorem dX5_isField_45 : decode cX5_isField 45 = .ok (.iload_n 1, 1) := by decide +kernel
theorem dX5_isField_46 : decode cX5_isField 46 = .ok (.invokestatic 82, 3) := by decide +kernel
theorem dX5_isField_49 : decode cX5_isField 49 = .ok (.ireturn, 1) := by decide +kernel
theorem dX5_isField_50 : decode cX5_isField 50 = .ok (.iload_n 1, 1) := by decide +kernel
theorem dX5_isField_51 : decode cX5_isField 51 = .ok (.iconst 1, 1) := by decide +kernel
theorem dX5_isField_52 : decode cX5_isField 52 = .ok (.bipush 40, 2) := by decide +kernel
theorem dX5_isField_54 : decode cX5_isField 54 = .ok (.invokestatic 70, 3) := by decide +kernel
theorem dX5_isField_57 : decode cX5_isField 57 = .ok (.ireturn, 1) := by decide +kernel
theorem dX5_isField_58 : decode cX5_isField 58 = .ok (.iload_n 1, 1) := by decide +kernel
theorem dX5_isField_59 : decode cX5_isField 59 = .ok (.invokestatic 74, 3) := by decide +kernel
theorem dX5_isField_62 : decode cX5_isField 62 = .ok (.ireturn, 1) := by decide +kernel
theorem dX5_isField_63 : decode cX5_isField 63 = .ok (.iload_n 1, 1) := by decide +kernel
theorem dX5_isField_64 : decode cX5_isField 64 = .ok (.iconst 0, 1) := by decide +kernel
theorem dX5_isField_65 : decode cX5_isField 65 = .ok (.iconst 1, 1) := by decide +kernel
theorem dX5_isField_66 : decode cX5_isField 66 = .ok (.invokestatic 70, 3) := by decide +kernel
theorem dX5_isField_69 : decode cX5_isField 69 = .ok (.ireturn, 1) := by decide +kernel
theorem dX5_isField_70 : decode cX5_isField 70 = .ok (.iconst 0, 1) := by decide +kernel
theorem dX5_isField_71 : decode cX5_isField 71 = .ok (.ireturn, 1) := by decide +kernel
theorem dX5_change_0 : decode cX5_change 0 = .ok (.aload_n 0, 1) := by decide +kernel
theorem dX5_change_1 : decode cX5_change 1 = .ok (.iload_n 1, 1) := by decide +kernel
theorem dX5_change_2 : decode cX5_change 2 = .ok (.invokevirtual 131, 3) := by decide +kernel
theorem dX5_change_5 : decode cX5_change 5 = .ok (.ifCond .eq 24, 3) := by decide +kernel
theorem dX5_change_8 : decode cX5_change 8 = .ok (.iload_n 2, 1) := by decide +kernel
theorem dX5_change_9 : decode cX5_change 9 = .ok (.iload_n 3, 1) := by decide +kernel
theorem dX5_change_10 : decode cX5_change 10 = .ok (.invokestatic 137, 3) := by decide +kernel
theorem dX5_change_13 : decode cX5_change 13 = .ok (.ifCond .eq 16, 3) := by decide +kernel
theorem dX5_change_16 : decode cX5_change 16 = .ok (.aload_n 0, 1) := by decide +kernel
theorem dX5_change_17 : decode cX5_change 17 = .ok (.iload_n 1, 1) := by decide +kernel
theorem dX5_change_18 : decode cX5_change 18 = .ok (.iload_n 2, 1) := by decide +kernel
theorem dX5_change_19 : decode cX5_change 19 = .ok (.invokestatic 106, 3) := by decide +kernel
theorem dX5_change_22 : decode cX5_change 22 = .ok (.iload_n 3, 1) := by decide +kernel
theorem dX5_change_23 : decode cX5_change 23 = .ok (.invokevirtual 78, 3) := by decide +kernel
theorem dX5_change_26 : decode cX5_change 26 = .ok (.goto 9, 3) := by decide +kernel
theorem dX5_change_29 : decode cX5_change 29 = .ok (.aload_n 0, 1) := by decide +kernel
theorem dX5_change_30 : decode cX5_change 30 = .ok (.ldc 60, 2) := by decide +kernel
theorem dX5_change_32 : decode cX5_change 32 = .ok (.invokevirtual 66, 3) := by decide +kernel
theorem dX5_change_35 : decode cX5_change 35 = .ok (.ireturn, 1) := by decide +kernel
theorem dX5_reachOf_0 : decode cX5_reachOf 0 = .ok (.aload_n 0, 1) := by decide +kernel
theorem dX5_reachOf_1 : decode cX5_reachOf 1 = .ok (.iload_n 1, 1) := by decide +kernel
theorem dX5_reachOf_2 : decode cX5_reachOf 2 = .ok (.invokevirtual 119, 3) := by decide +kernel
theorem dX5_reachOf_5 : decode cX5_reachOf 5 = .ok (.istore_n 3, 1) := by decide +kernel
theorem dX5_reachOf_6 : decode cX5_reachOf 6 = .ok (.iconst 1, 1) := by decide +kernel
theorem dX5_reachOf_7 : decode cX5_reachOf 7 = .ok (.aload_n 0, 1) := by decide +kernel
theorem dX5_reachOf_8 : decode cX5_reachOf 8 = .ok (.iload_n 1, 1) := by decide +kernel
theorem dX5_reachOf_9 : decode cX5_reachOf 9 = .ok (.iconst 1, 1) := by decide +kernel
theorem dX5_reachOf_10 : decode cX5_reachOf 10 = .ok (.invokevirtual 116, 3) := by decide +kernel
theorem dX5_reachOf_13 : decode cX5_reachOf 13 = .ok (.ishl, 1) := by decide +kernel
theorem dX5_reachOf_14 : decode cX5_reachOf 14 = .ok (.istore 4, 2) := by decide +kernel
theorem dX5_reachOf_16 : decode cX5_reachOf 16 = .ok (.iconst (-1), 1) := by decide +kernel
theorem dX5_reachOf_17 : decode cX5_reachOf 17 = .ok (.istore 5, 2) := by decide +kernel
theorem dX5_reachOf_19 : decode cX5_reachOf 19 = .ok (.iload 5, 2) := by decide +kernel
theorem dX5_reachOf_21 : decode cX5_reachOf 21 = .ok (.iconst 1, 1) := by decide +kernel
theorem dX5_reachOf_22 : decode cX5_reachOf 22 = .ok (.if_icmp .gt 58, 3) := by decide +kernel
theorem dX5_reachOf_25 : decode cX5_reachOf 25 = .ok (.aload_n 0, 1) := by decide +kernel
theorem dX5_reachOf_26 : decode cX5_reachOf 26 = .ok (.iload_n 1, 1) := by decide +kernel
theorem dX5_reachOf_27 : decode cX5_reachOf 27 = .ok (.iconst 1, 1) := by decide +kernel
theorem dX5_reachOf_28 : decode cX5_reachOf 28 = .ok (.invokevirtual 116, 3) := by decide +kernel
theorem dX5_reachOf_31 : decode cX5_reachOf 31 = .ok (.iload 5, 2) := by decide +kernel
theorem dX5_reachOf_33 : decode cX5_reachOf 33 = .ok (.iadd, 1) := by decide +kernel
theorem dX5_reachOf_34 : decode cX5_reachOf 34 = .ok (.istore 6, 2) := by decide +kernel
theorem dX5_reachOf_36 : decode cX5_reachOf 36 = .ok (.iload 6, 2) := by decide +kernel
theorem dX5_reachOf_38 : decode cX5_reachOf 38 = .ok (.invokestatic 82, 3) := by decide +kernel
theorem dX5_reachOf_41 : decode cX5_reachOf 41 = .ok (.ifCond .eq 33, 3) := by decide +kernel
theorem dX5_reachOf_44 : decode cX5_reachOf 44 = .ok (.aload_n 0, 1) := by decide +kernel
theorem dX5_reachOf_45 : decode cX5_reachOf 45 = .ok (.iload 6, 2) := by decide +kernel
theorem dX5_reachOf_47 : decode cX5_reachOf 47 = .ok (.iload_n 2, 1) := by decide +kernel
theorem dX5_reachOf_48 : decode cX5_reachOf 48 = .ok (.invokevirtual 103, 3) := by decide +kernel
theorem dX5_reachOf_51 : decode cX5_reachOf 51 = .ok (.iload_n 3, 1) := by decide +kernel
theorem dX5_reachOf_52 : decode cX5_reachOf 52 = .ok (.if_icmp .lt 22, 3) := by decide +kernel
theorem dX5_reachOf_55 : decode cX5_reachOf 55 = .ok (.iload 4, 2) := by decide +kernel
theorem dX5_reachOf_57 : decode cX5_reachOf 57 = .ok (.iconst 1, 1) := by decide +kernel
theorem dX5_reachOf_58 : decode cX5_reachOf 58 = .ok (.iload 6, 2) := by decide +kernel
theorem dX5_reachOf_60 : decode cX5_reachOf 60 = .ok (.ishl, 1) := by decide +kernel
theorem dX5_reachOf_61 : decode cX5_reachOf 61 = .ok (.ior, 1) := by decide +kernel
theorem dX5_reachOf_62 : decode cX5_reachOf 62 = .ok (.istore 4, 2) := by decide +kernel
theorem dX5_reachOf_64 : decode cX5_reachOf 64 = .ok (.iload 6, 2) := by decide +kernel
theorem dX5_reachOf_66 : decode cX5_reachOf 66 = .ok (.iload 5, 2) := by decide +kernel
theorem dX5_reachOf_68 : decode cX5_reachOf 68 = .ok (.iadd, 1) := by decide +kernel
theorem dX5_reachOf_69 : decode cX5_reachOf 69 = .ok (.istore 6, 2) := by decide +kernel
theorem dX5_reachOf_71 : decode cX5_reachOf 71 = .ok (.goto (-35), 3) := by decide +kernel
theorem dX5_reachOf_74 : decode cX5_reachOf 74 = .ok (.iinc 5 2, 3) := by decide +kernel
theorem dX5_reachOf_77 : decode cX5_reachOf 77 = .ok (.goto (-58), 3) := by decide +kernel
theorem dX5_reachOf_80 : decode cX5_reachOf 80 = .ok (.iload 4, 2) := by decide +kernel
theorem dX5_reachOf_82 : decode cX5_reachOf 82 = .ok (.ireturn, 1) := by decide +kernel
theorem dX5_reach_0 : decode cX5_reach 0 = .ok (.aload_n 0, 1) := by decide +kernel
theorem dX5_reach_1 : decode cX5_reach 1 = .ok (.iload_n 1, 1) := by decide +kernel
theorem dX5_reach_2 : decode cX5_reach 2 = .ok (.invokevirtual 131, 3) := by decide +kernel
theorem dX5_reach_5 : decode cX5_reach 5 = .ok (.ifCond .eq 19, 3) := by decide +kernel
theorem dX5_reach_8 : decode cX5_reach 8 = .ok (.iload_n 2, 1) := by decide +kernel
theorem dX5_reach_9 : decode cX5_reach 9 = .ok (.invokestatic 91, 3) := by decide +kernel
theorem dX5_reach_12 : decode cX5_reach 12 = .ok (.ifCond .eq 12, 3) := by decide +kernel
theorem dX5_reach_15 : decode cX5_reach 15 = .ok (.aload_n 0, 1) := by decide +kernel
theorem dX5_reach_16 : decode cX5_reach 16 = .ok (.iload_n 1, 1) := by decide +kernel
theorem dX5_reach_17 : decode cX5_reach 17 = .ok (.iload_n 2, 1) := by decide +kernel
theorem dX5_reach_18 : decode cX5_reach 18 = .ok (.invokevirtual 141, 3) := by decide +kernel
theorem dX5_reach_21 : decode cX5_reach 21 = .ok (.goto 9, 3) := by decide +kernel
theorem dX5_reach_24 : decode cX5_reach 24 = .ok (.aload_n 0, 1) := by decide +kernel
theorem dX5_reach_25 : decode cX5_reach 25 = .ok (.ldc 60, 2) := by decide +kernel
theorem dX5_reach_27 : decode cX5_reach 27 = .ok (.invokevirtual 66, 3) := by decide +kernel
theorem dX5_reach_30 : decode cX5_reach 30 = .ok (.ireturn, 1) := by decide +kernel
theorem dX5_goes_0 : decode cX5_goes 0 = .ok (.aload_n 0, 1) := by decide +kernel
theorem dX5_goes_1 : decode cX5_goes 1 = .ok (.iload_n 1, 1) := by decide +kernel
theorem dX5_goes_2 : decode cX5_goes 2 = .ok (.iconst 3, 1) := by decide +kernel
theorem dX5_goes_3 : decode cX5_goes 3 = .ok (.invokevirtual 116, 3) := by decide +kernel
theorem dX5_goes_6 : decode cX5_goes 6 = .ok (.istore_n 3, 1) := by decide +kernel
theorem dX5_goes_7 : decode cX5_goes 7 = .ok (.aload_n 0, 1) := by decide +kernel
theorem dX5_goes_8 : decode cX5_goes 8 = .ok (.iload_n 1, 1) := by decide +kernel
theorem dX5_goes_9 : decode cX5_goes 9 = .ok (.iconst 1, 1) := by decide +kernel
theorem dX5_goes_10 : decode cX5_goes 10 = .ok (.invokevirtual 116, 3) := by decide +kernel
theorem dX5_goes_13 : decode cX5_goes 13 = .ok (.istore 4, 2) := by decide +kernel
theorem dX5_goes_15 : decode cX5_goes 15 = .ok (.iload_n 3, 1) := by decide +kernel
theorem dX5_goes_16 : decode cX5_goes 16 = .ok (.iload 4, 2) := by decide +kernel
theorem dX5_goes_18 : decode cX5_goes 18 = .ok (.if_icmp .le 7, 3) := by decide +kernel
theorem dX5_goes_21 : decode cX5_goes 21 = .ok (.iconst 1, 1) := by decide +kernel
theorem dX5_goes_22 : decode cX5_goes 22 = .ok (.goto 4, 3) := by decide +kernel
theorem dX5_goes_25 : decode cX5_goes 25 = .ok (.iconst (-1), 1) := by decide +kernel
theorem dX5_goes_26 : decode cX5_goes 26 = .ok (.istore 5, 2) := by decide +kernel
theorem dX5_goes_28 : decode cX5_goes 28 = .ok (.aload_n 0, 1) := by decide +kernel
theorem dX5_goes_29 : decode cX5_goes 29 = .ok (.iload_n 1, 1) := by decide +kernel
theorem dX5_goes_30 : decode cX5_goes 30 = .ok (.invokevirtual 119, 3) := by decide +kernel
theorem dX5_goes_33 : decode cX5_goes 33 = .ok (.istore 6, 2) := by decide +kernel
theorem dX5_goes_35 : decode cX5_goes 35 = .ok (.iconst 0, 1) := by decide +kernel
theorem dX5_goes_36 : decode cX5_goes 36 = .ok (.istore 7, 2) := by decide +kernel
theorem dX5_goes_38 : decode cX5_goes 38 = .ok (.iload 7, 2) := by decide +kernel
theorem dX5_goes_40 : decode cX5_goes 40 = .ok (.aload_n 0, 1) := by decide +kernel
theorem dX5_goes_41 : decode cX5_goes 41 = .ok (.iload_n 1, 1) := by decide +kernel
theorem dX5_goes_42 : decode cX5_goes 42 = .ok (.invokevirtual 122, 3) := by decide +kernel
theorem dX5_goes_45 : decode cX5_goes 45 = .ok (.if_icmp .ge 37, 3) := by decide +kernel
theorem dX5_goes_48 : decode cX5_goes 48 = .ok (.iload 4, 2) := by decide +kernel
theorem dX5_goes_50 : decode cX5_goes 50 = .ok (.iload_n 3, 1) := by decide +kernel
theorem dX5_goes_51 : decode cX5_goes 51 = .ok (.if_icmp .eq 31, 3) := by decide +kernel
theorem dX5_goes_54 : decode cX5_goes 54 = .ok (.aload_n 0, 1) := by decide +kernel
theorem dX5_goes_55 : decode cX5_goes 55 = .ok (.iload 4, 2) := by decide +kernel
theorem dX5_goes_57 : decode cX5_goes 57 = .ok (.iload 5, 2) := by decide +kernel
theorem dX5_goes_59 : decode cX5_goes 59 = .ok (.iadd, 1) := by decide +kernel
theorem dX5_goes_60 : decode cX5_goes 60 = .ok (.iload_n 2, 1) := by decide +kernel
theorem dX5_goes_61 : decode cX5_goes 61 = .ok (.invokevirtual 103, 3) := by decide +kernel
theorem dX5_goes_64 : decode cX5_goes 64 = .ok (.iload 6, 2) := by decide +kernel
theorem dX5_goes_66 : decode cX5_goes 66 = .ok (.if_icmp .lt 16, 3) := by decide +kernel
theorem dX5_goes_69 : decode cX5_goes 69 = .ok (.iload 4, 2) := by decide +kernel
theorem dX5_goes_71 : decode cX5_goes 71 = .ok (.iload 5, 2) := by decide +kernel
theorem dX5_goes_73 : decode cX5_goes 73 = .ok (.iadd, 1) := by decide +kernel
theorem dX5_goes_74 : decode cX5_goes 74 = .ok (.istore 4, 2) := by decide +kernel
theorem dX5_goes_76 : decode cX5_goes 76 = .ok (.iinc 7 1, 3) := by decide +kernel
theorem dX5_goes_79 : decode cX5_goes 79 = .ok (.goto (-41), 3) := by decide +kernel
theorem dX5_goes_82 : decode cX5_goes 82 = .ok (.aload_n 0, 1) := by decide +kernel
theorem dX5_goes_83 : decode cX5_goes 83 = .ok (.getfield 9, 3) := by decide +kernel
theorem dX5_goes_86 : decode cX5_goes 86 = .ok (.iload_n 1, 1) := by decide +kernel
theorem dX5_goes_87 : decode cX5_goes 87 = .ok (.iconst 1, 1) := by decide +kernel
theorem dX5_goes_88 : decode cX5_goes 88 = .ok (.invokestatic 106, 3) := by decide +kernel
theorem dX5_goes_91 : decode cX5_goes 91 = .ok (.iload 4, 2) := by decide +kernel
theorem dX5_goes_93 : decode cX5_goes 93 = .ok (.iastore, 1) := by decide +kernel
theorem dX5_goes_94 : decode cX5_goes 94 = .ok (.aload_n 0, 1) := by decide +kernel
theorem dX5_goes_95 : decode cX5_goes 95 = .ok (.getfield 9, 3) := by decide +kernel
theorem dX5_goes_98 : decode cX5_goes 98 = .ok (.iload_n 1, 1) := by decide +kernel
theorem dX5_goes_99 : decode cX5_goes 99 = .ok (.iconst 4, 1) := by decide +kernel
theorem dX5_goes_100 : decode cX5_goes 100 = .ok (.invokestatic 106, 3) := by decide +kernel
theorem dX5_goes_103 : decode cX5_goes 103 = .ok (.iload 7, 2) := by decide +kernel
theorem dX5_goes_105 : decode cX5_goes 105 = .ok (.ifCond .ne 20, 3) := by decide +kernel
theorem dX5_goes_108 : decode cX5_goes 108 = .ok (.sipush 9999, 3) := by decide +kernel
theorem dX5_goes_111 : decode cX5_goes 111 = .ok (.aload_n 0, 1) := by decide +kernel
theorem dX5_goes_112 : decode cX5_goes 112 = .ok (.iload_n 1, 1) := by decide +kernel
theorem dX5_goes_113 : decode cX5_goes 113 = .ok (.iconst 4, 1) := by decide +kernel
theorem dX5_goes_114 : decode cX5_goes 114 = .ok (.invokevirtual 116, 3) := by decide +kernel
theorem dX5_goes_117 : decode cX5_goes 117 = .ok (.iconst 1, 1) := by decide +kernel
theorem dX5_goes_118 : decode cX5_goes 118 = .ok (.iadd, 1) := by decide +kernel
theorem dX5_goes_119 : decode cX5_goes 119 = .ok (.invokestatic 144, 3) := by decide +kernel
theorem dX5_goes_122 : decode cX5_goes 122 = .ok (.goto 4, 3) := by decide +kernel
theorem dX5_goes_125 : decode cX5_goes 125 = .ok (.iconst 0, 1) := by decide +kernel
theorem dX5_goes_126 : decode cX5_goes 126 = .ok (.iastore, 1) := by decide +kernel
theorem dX5_goes_127 : decode cX5_goes 127 = .ok (.return_, 1) := by decide +kernel
theorem dX5_isIn_0 : decode cX5_isIn 0 = .ok (.aload_n 0, 1) := by decide +kernel
theorem dX5_isIn_1 : decode cX5_isIn 1 = .ok (.iload_n 1, 1) := by decide +kernel
theorem dX5_isIn_2 : decode cX5_isIn 2 = .ok (.iconst 5, 1) := by decide +kernel
theorem dX5_isIn_3 : decode cX5_isIn 3 = .ok (.invokevirtual 116, 3) := by decide +kernel
theorem dX5_isIn_6 : decode cX5_isIn 6 = .ok (.ifCond .ne 7, 3) := by decide +kernel
theorem dX5_isIn_9 : decode cX5_isIn 9 = .ok (.iconst 1, 1) := by decide +kernel
theorem dX5_isIn_10 : decode cX5_isIn 10 = .ok (.goto 4, 3) := by decide +kernel
theorem dX5_isIn_13 : decode cX5_isIn 13 = .ok (.iconst 0, 1) := by decide +kernel
theorem dX5_isIn_14 : decode cX5_isIn 14 = .ok (.ireturn, 1) := by decide +kernel
theorem dX5_strains_0 : decode cX5_strains 0 = .ok (.aload_n 0, 1) := by decide +kernel
theorem dX5_strains_1 : decode cX5_strains 1 = .ok (.getfield 9, 3) := by decide +kernel
theorem dX5_strains_4 : decode cX5_strains 4 = .ok (.iconst 4, 1) := by decide +kernel
theorem dX5_strains_5 : decode cX5_strains 5 = .ok (.iaload, 1) := by decide +kernel
theorem dX5_strains_6 : decode cX5_strains 6 = .ok (.bipush 36, 2) := by decide +kernel
theorem dX5_strains_8 : decode cX5_strains 8 = .ok (.iadd, 1) := by decide +kernel
theorem dX5_strains_9 : decode cX5_strains 9 = .ok (.iload_n 1, 1) := by decide +kernel
theorem dX5_strains_10 : decode cX5_strains 10 = .ok (.isub, 1) := by decide +kernel
theorem dX5_strains_11 : decode cX5_strains 11 = .ok (.istore_n 2, 1) := by decide +kernel
theorem dX5_strains_12 : decode cX5_strains 12 = .ok (.iconst 0, 1) := by decide +kernel
theorem dX5_strains_13 : decode cX5_strains 13 = .ok (.istore_n 3, 1) := by decide +kernel
theorem dX5_strains_14 : decode cX5_strains 14 = .ok (.iload_n 3, 1) := by decide +kernel
theorem dX5_strains_15 : decode cX5_strains 15 = .ok (.aload_n 0, 1) := by decide +kernel
theorem dX5_strains_16 : decode cX5_strains 16 = .ok (.getfield 9, 3) := by decide +kernel
theorem dX5_strains_19 : decode cX5_strains 19 = .ok (.iconst 1, 1) := by decide +kernel
theorem dX5_strains_20 : decode cX5_strains 20 = .ok (.iaload, 1) := by decide +kernel
theorem dX5_strains_21 : decode cX5_strains 21 = .ok (.if_icmp .ge 58, 3) := by decide +kernel
theorem dX5_strains_24 : decode cX5_strains 24 = .ok (.iload_n 2, 1) := by decide +kernel
theorem dX5_strains_25 : decode cX5_strains 25 = .ok (.aload_n 0, 1) := by decide +kernel
theorem dX5_strains_26 : decode cX5_strains 26 = .ok (.iload_n 3, 1) := by decide +kernel
theorem dX5_strains_27 : decode cX5_strains 27 = .ok (.invokevirtual 147, 3) := by decide +kernel
theorem dX5_strains_30 : decode cX5_strains 30 = .ok (.ifCond .eq 20, 3) := by decide +kernel
theorem dX5_strains_33 : decode cX5_strains 33 = .ok (.aload_n 0, 1) := by decide +kernel
theorem dX5_strains_34 : decode cX5_strains 34 = .ok (.iload_n 3, 1) := by decide +kernel
theorem dX5_strains_35 : decode cX5_strains 35 = .ok (.iconst 1, 1) := by decide +kernel
theorem dX5_strains_36 : decode cX5_strains 36 = .ok (.invokevirtual 116, 3) := by decide +kernel
theorem dX5_strains_39 : decode cX5_strains 39 = .ok (.ifCond .ne 11, 3) := by decide +kernel
theorem dX5_strains_42 : decode cX5_strains 42 = .ok (.aload_n 0, 1) := by decide +kernel
theorem dX5_strains_43 : decode cX5_strains 43 = .ok (.iload_n 3, 1) := by decide +kernel
theorem dX5_strains_44 : decode cX5_strains 44 = .ok (.invokevirtual 125, 3) := by decide +kernel
theorem dX5_strains_47 : decode cX5_strains 47 = .ok (.goto 4, 3) := by decide +kernel
theorem dX5_strains_50 : decode cX5_strains 50 = .ok (.iconst 0, 1) := by decide +kernel
theorem dX5_strains_51 : decode cX5_strains 51 = .ok (.iadd, 1) := by decide +kernel
theorem dX5_strains_52 : decode cX5_strains 52 = .ok (.istore_n 2, 1) := by decide +kernel
theorem dX5_strains_53 : decode cX5_strains 53 = .ok (.iload_n 2, 1) := by decide +kernel
theorem dX5_strains_54 : decode cX5_strains 54 = .ok (.aload_n 0, 1) := by decide +kernel
theorem dX5_strains_55 : decode cX5_strains 55 = .ok (.iload_n 3, 1) := by decide +kernel
theorem dX5_strains_56 : decode cX5_strains 56 = .ok (.invokevirtual 147, 3) := by decide +kernel
theorem dX5_strains_59 : decode cX5_strains 59 = .ok (.ifCond .eq 11, 3) := by decide +kernel
theorem dX5_strains_62 : decode cX5_strains 62 = .ok (.aload_n 0, 1) := by decide +kernel
theorem dX5_strains_63 : decode cX5_strains 63 = .ok (.iload_n 3, 1) := by decide +kernel
theorem dX5_strains_64 : decode cX5_strains 64 = .ok (.invokevirtual 128, 3) := by decide +kernel
theorem dX5_strains_67 : decode cX5_strains 67 = .ok (.goto 4, 3) := by decide +kernel
theorem dX5_strains_70 : decode cX5_strains 70 = .ok (.iconst 0, 1) := by decide +kernel
theorem dX5_strains_71 : decode cX5_strains 71 = .ok (.isub, 1) := by decide +kernel
theorem dX5_strains_72 : decode cX5_strains 72 = .ok (.istore_n 2, 1) := by decide +kernel
theorem dX5_strains_73 : decode cX5_strains 73 = .ok (.iinc 3 1, 3) := by decide +kernel
theorem dX5_strains_76 : decode cX5_strains 76 = .ok (.goto (-62), 3) := by decide +kernel
theorem dX5_strains_79 : decode cX5_strains 79 = .ok (.aload_n 0, 1) := by decide +kernel
theorem dX5_strains_80 : decode cX5_strains 80 = .ok (.getfield 9, 3) := by decide +kernel
theorem dX5_strains_83 : decode cX5_strains 83 = .ok (.iconst 4, 1) := by decide +kernel
theorem dX5_strains_84 : decode cX5_strains 84 = .ok (.iconst 0, 1) := by decide +kernel
theorem dX5_strains_85 : decode cX5_strains 85 = .ok (.sipush 9999, 3) := by decide +kernel
theorem dX5_strains_88 : decode cX5_strains 88 = .ok (.iload_n 2, 1) := by decide +kernel
theorem dX5_strains_89 : decode cX5_strains 89 = .ok (.invokestatic 144, 3) := by decide +kernel
theorem dX5_strains_92 : decode cX5_strains 92 = .ok (.invokestatic 98, 3) := by decide +kernel
theorem dX5_strains_95 : decode cX5_strains 95 = .ok (.iastore, 1) := by decide +kernel
theorem dX5_strains_96 : decode cX5_strains 96 = .ok (.aload_n 0, 1) := by decide +kernel
theorem dX5_strains_97 : decode cX5_strains 97 = .ok (.getfield 9, 3) := by decide +kernel
theorem dX5_strains_100 : decode cX5_strains 100 = .ok (.iconst 4, 1) := by decide +kernel
theorem dX5_strains_101 : decode cX5_strains 101 = .ok (.iaload, 1) := by decide +kernel
theorem dX5_strains_102 : decode cX5_strains 102 = .ok (.aload_n 0, 1) := by decide +kernel
theorem dX5_strains_103 : decode cX5_strains 103 = .ok (.getfield 9, 3) := by decide +kernel
theorem dX5_strains_106 : decode cX5_strains 106 = .ok (.iconst 3, 1) := by decide +kernel
theorem dX5_strains_107 : decode cX5_strains 107 = .ok (.iaload, 1) := by decide +kernel
theorem dX5_strains_108 : decode cX5_strains 108 = .ok (.if_icmp .le 10, 3) := by decide +kernel
theorem dX5_strains_111 : decode cX5_strains 111 = .ok (.aload_n 0, 1) := by decide +kernel
