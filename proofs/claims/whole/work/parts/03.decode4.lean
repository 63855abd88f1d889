theorem d_M_count_0 : decode b_M_count 0 = .ok (.aload_n 0, 1) := by decide +kernel
theorem d_M_count_1 : decode b_M_count 1 = .ok (.iconst 0, 1) := by decide +kernel
theorem d_M_count_2 : decode b_M_count 2 = .ok (.putfield 26, 3) := by decide +kernel
theorem d_M_count_5 : decode b_M_count 5 = .ok (.iconst 0, 1) := by decide +kernel
theorem d_M_count_6 : decode b_M_count 6 = .ok (.istore_n 2, 1) := by decide +kernel
theorem d_M_count_7 : decode b_M_count 7 = .ok (.iconst 0, 1) := by decide +kernel
theorem d_M_count_8 : decode b_M_count 8 = .ok (.istore_n 3, 1) := by decide +kernel
theorem d_M_count_9 : decode b_M_count 9 = .ok (.iload_n 3, 1) := by decide +kernel
theorem d_M_count_10 : decode b_M_count 10 = .ok (.aload_n 0, 1) := by decide +kernel
theorem d_M_count_11 : decode b_M_count 11 = .ok (.getfield 35, 3) := by decide +kernel
theorem d_M_count_14 : decode b_M_count 14 = .ok (.if_icmp .ge 48, 3) := by decide +kernel
theorem d_M_count_17 : decode b_M_count 17 = .ok (.iload_n 2, 1) := by decide +kernel
theorem d_M_count_18 : decode b_M_count 18 = .ok (.iload_n 1, 1) := by decide +kernel
theorem d_M_count_19 : decode b_M_count 19 = .ok (.iconst 2, 1) := by decide +kernel
theorem d_M_count_20 : decode b_M_count 20 = .ok (.if_icmp .ne 20, 3) := by decide +kernel
theorem d_M_count_23 : decode b_M_count 23 = .ok (.aload_n 0, 1) := by decide +kernel
theorem d_M_count_24 : decode b_M_count 24 = .ok (.getfield 16, 3) := by decide +kernel
theorem d_M_count_27 : decode b_M_count 27 = .ok (.iload_n 3, 1) := by decide +kernel
theorem d_M_count_28 : decode b_M_count 28 = .ok (.baload, 1) := by decide +kernel
theorem d_M_count_29 : decode b_M_count 29 = .ok (.ifCond .eq 7, 3) := by decide +kernel
theorem d_M_count_32 : decode b_M_count 32 = .ok (.iconst 1, 1) := by decide +kernel
theorem d_M_count_33 : decode b_M_count 33 = .ok (.goto 21, 3) := by decide +kernel
theorem d_M_count_36 : decode b_M_count 36 = .ok (.iconst 0, 1) := by decide +kernel
theorem d_M_count_37 : decode b_M_count 37 = .ok (.goto 17, 3) := by decide +kernel
theorem d_M_count_40 : decode b_M_count 40 = .ok (.aload_n 0, 1) := by decide +kernel
theorem d_M_count_41 : decode b_M_count 41 = .ok (.iload_n 3, 1) := by decide +kernel
theorem d_M_count_42 : decode b_M_count 42 = .ok (.invokevirtual 46, 3) := by decide +kernel
theorem d_M_count_45 : decode b_M_count 45 = .ok (.iconst (-1), 1) := by decide +kernel
theorem d_M_count_46 : decode b_M_count 46 = .ok (.if_icmp .eq 7, 3) := by decide +kernel
theorem d_M_count_49 : decode b_M_count 49 = .ok (.iconst 1, 1) := by decide +kernel
theorem d_M_count_50 : decode b_M_count 50 = .ok (.goto 4, 3) := by decide +kernel
theorem d_M_count_53 : decode b_M_count 53 = .ok (.iconst 0, 1) := by decide +kernel
theorem d_M_count_54 : decode b_M_count 54 = .ok (.iadd, 1) := by decide +kernel
theorem d_M_count_55 : decode b_M_count 55 = .ok (.istore_n 2, 1) := by decide +kernel
theorem d_M_count_56 : decode b_M_count 56 = .ok (.iinc 3 1, 3) := by decide +kernel
theorem d_M_count_59 : decode b_M_count 59 = .ok (.goto (-50), 3) := by decide +kernel
theorem d_M_count_62 : decode b_M_count 62 = .ok (.iload_n 1, 1) := by decide +kernel
theorem d_M_count_63 : decode b_M_count 63 = .ok (.ifCond .ne 10, 3) := by decide +kernel
theorem d_M_count_66 : decode b_M_count 66 = .ok (.aload_n 0, 1) := by decide +kernel
theorem d_M_count_67 : decode b_M_count 67 = .ok (.getfield 30, 3) := by decide +kernel
theorem d_M_count_70 : decode b_M_count 70 = .ok (.goto 30, 3) := by decide +kernel
theorem d_M_count_73 : decode b_M_count 73 = .ok (.iload_n 1, 1) := by decide +kernel
theorem d_M_count_74 : decode b_M_count 74 = .ok (.iconst 1, 1) := by decide +kernel
theorem d_M_count_75 : decode b_M_count 75 = .ok (.if_icmp .ne 10, 3) := by decide +kernel
theorem d_M_count_78 : decode b_M_count 78 = .ok (.aload_n 0, 1) := by decide +kernel
theorem d_M_count_79 : decode b_M_count 79 = .ok (.getfield 35, 3) := by decide +kernel
theorem d_M_count_82 : decode b_M_count 82 = .ok (.goto 18, 3) := by decide +kernel
theorem d_M_count_85 : decode b_M_count 85 = .ok (.iload_n 1, 1) := by decide +kernel
theorem d_M_count_86 : decode b_M_count 86 = .ok (.iconst 2, 1) := by decide +kernel
theorem d_M_count_87 : decode b_M_count 87 = .ok (.if_icmp .eq 8, 3) := by decide +kernel
theorem d_M_count_90 : decode b_M_count 90 = .ok (.iload_n 1, 1) := by decide +kernel
theorem d_M_count_91 : decode b_M_count 91 = .ok (.iconst 3, 1) := by decide +kernel
theorem d_M_count_92 : decode b_M_count 92 = .ok (.if_icmp .ne 7, 3) := by decide +kernel
theorem d_M_count_95 : decode b_M_count 95 = .ok (.iload_n 2, 1) := by decide +kernel
theorem d_M_count_96 : decode b_M_count 96 = .ok (.goto 4, 3) := by decide +kernel
theorem d_M_count_99 : decode b_M_count 99 = .ok (.iconst (-1), 1) := by decide +kernel
theorem d_M_count_100 : decode b_M_count 100 = .ok (.ireturn, 1) := by decide +kernel
theorem d_L_part_0 : decode b_L_part 0 = .ok (.aload_n 3, 1) := by decide +kernel
theorem d_L_part_1 : decode b_L_part 1 = .ok (.iconst 0, 1) := by decide +kernel
theorem d_L_part_2 : decode b_L_part 2 = .ok (.aload_n 0, 1) := by decide +kernel
theorem d_L_part_3 : decode b_L_part 3 = .ok (.iload_n 1, 1) := by decide +kernel
theorem d_L_part_4 : decode b_L_part 4 = .ok (.iload_n 2, 1) := by decide +kernel
theorem d_L_part_5 : decode b_L_part 5 = .ok (.invokevirtual 7, 3) := by decide +kernel
theorem d_L_part_8 : decode b_L_part 8 = .ok (.ifCond .eq 7, 3) := by decide +kernel
theorem d_L_part_11 : decode b_L_part 11 = .ok (.lconst 1, 1) := by decide +kernel
theorem d_L_part_12 : decode b_L_part 12 = .ok (.goto 4, 3) := by decide +kernel
theorem d_L_part_15 : decode b_L_part 15 = .ok (.lconst 0, 1) := by decide +kernel
theorem d_L_part_16 : decode b_L_part 16 = .ok (.lastore, 1) := by decide +kernel
theorem d_L_part_17 : decode b_L_part 17 = .ok (.goto 7, 3) := by decide +kernel
theorem d_L_part_20 : decode b_L_part 20 = .ok (.astore 4, 2) := by decide +kernel
theorem d_L_part_22 : decode b_L_part 22 = .ok (.iconst 1, 1) := by decide +kernel
theorem d_L_part_23 : decode b_L_part 23 = .ok (.ireturn, 1) := by decide +kernel
theorem d_L_part_24 : decode b_L_part 24 = .ok (.iconst 0, 1) := by decide +kernel
theorem d_L_part_25 : decode b_L_part 25 = .ok (.ireturn, 1) := by decide +kernel
theorem d_L_law_0 : decode b_L_law 0 = .ok (.new 8, 3) := by decide +kernel
theorem d_L_law_3 : decode b_L_law 3 = .ok (.dup, 1) := by decide +kernel
theorem d_L_law_4 : decode b_L_law 4 = .ok (.invokespecial 15, 3) := by decide +kernel
theorem d_L_law_7 : decode b_L_law 7 = .ok (.astore_n 1, 1) := by decide +kernel
theorem d_L_law_8 : decode b_L_law 8 = .ok (.new 16, 3) := by decide +kernel
theorem d_L_law_11 : decode b_L_law 11 = .ok (.dup, 1) := by decide +kernel
theorem d_L_law_12 : decode b_L_law 12 = .ok (.invokespecial 18, 3) := by decide +kernel
theorem d_L_law_15 : decode b_L_law 15 = .ok (.astore_n 2, 1) := by decide +kernel
theorem d_L_law_16 : decode b_L_law 16 = .ok (.iconst 1, 1) := by decide +kernel
theorem d_L_law_17 : decode b_L_law 17 = .ok (.newarray .long, 2) := by decide +kernel
theorem d_L_law_19 : decode b_L_law 19 = .ok (.astore_n 3, 1) := by decide +kernel
theorem d_L_law_20 : decode b_L_law 20 = .ok (.iconst 0, 1) := by decide +kernel
theorem d_L_law_21 : decode b_L_law 21 = .ok (.istore 4, 2) := by decide +kernel
theorem d_L_law_23 : decode b_L_law 23 = .ok (.iload 4, 2) := by decide +kernel
theorem d_L_law_25 : decode b_L_law 25 = .ok (.aload_n 0, 1) := by decide +kernel
theorem d_L_law_26 : decode b_L_law 26 = .ok (.arraylength, 1) := by decide +kernel
theorem d_L_law_27 : decode b_L_law 27 = .ok (.iconst 5, 1) := by decide +kernel
theorem d_L_law_28 : decode b_L_law 28 = .ok (.isub, 1) := by decide +kernel
theorem d_L_law_29 : decode b_L_law 29 = .ok (.if_icmp .gt 419, 3) := by decide +kernel
theorem d_L_law_32 : decode b_L_law 32 = .ok (.aload_n 0, 1) := by decide +kernel
theorem d_L_law_33 : decode b_L_law 33 = .ok (.iload 4, 2) := by decide +kernel
theorem d_L_law_35 : decode b_L_law 35 = .ok (.iaload, 1) := by decide +kernel
theorem d_L_law_36 : decode b_L_law 36 = .ok (.bipush 7, 2) := by decide +kernel
theorem d_L_law_38 : decode b_L_law 38 = .ok (.iand, 1) := by decide +kernel
theorem d_L_law_39 : decode b_L_law 39 = .ok (.tableswitch 403 0 7 #[45, 114, 195, 208, 221, 296, 365, 378], 45) := by decide +kernel
theorem d_L_law_84 : decode b_L_law 84 = .ok (.aload_n 1, 1) := by decide +kernel
theorem d_L_law_85 : decode b_L_law 85 = .ok (.aload_n 0, 1) := by decide +kernel
theorem d_L_law_86 : decode b_L_law 86 = .ok (.iload 4, 2) := by decide +kernel
theorem d_L_law_88 : decode b_L_law 88 = .ok (.iconst 1, 1) := by decide +kernel
theorem d_L_law_89 : decode b_L_law 89 = .ok (.iadd, 1) := by decide +kernel
theorem d_L_law_90 : decode b_L_law 90 = .ok (.iaload, 1) := by decide +kernel
theorem d_L_law_91 : decode b_L_law 91 = .ok (.i2l, 1) := by decide +kernel
theorem d_L_law_92 : decode b_L_law 92 = .ok (.bipush 32, 2) := by decide +kernel
theorem d_L_law_94 : decode b_L_law 94 = .ok (.lshl, 1) := by decide +kernel
theorem d_L_law_95 : decode b_L_law 95 = .ok (.aload_n 0, 1) := by decide +kernel
theorem d_L_law_96 : decode b_L_law 96 = .ok (.iload 4, 2) := by decide +kernel
theorem d_L_law_98 : decode b_L_law 98 = .ok (.iconst 2, 1) := by decide +kernel
theorem d_L_law_99 : decode b_L_law 99 = .ok (.iadd, 1) := by decide +kernel
theorem d_L_law_100 : decode b_L_law 100 = .ok (.iaload, 1) := by decide +kernel
theorem d_L_law_101 : decode b_L_law 101 = .ok (.i2l, 1) := by decide +kernel
theorem d_L_law_102 : decode b_L_law 102 = .ok (.ldc2_w 19, 3) := by decide +kernel
theorem d_L_law_105 : decode b_L_law 105 = .ok (.land, 1) := by decide +kernel
theorem d_L_law_106 : decode b_L_law 106 = .ok (.lor, 1) := by decide +kernel
theorem d_L_law_107 : decode b_L_law 107 = .ok (.aload_n 0, 1) := by decide +kernel
theorem d_L_law_108 : decode b_L_law 108 = .ok (.iload 4, 2) := by decide +kernel
theorem d_L_law_110 : decode b_L_law 110 = .ok (.iconst 3, 1) := by decide +kernel
theorem d_L_law_111 : decode b_L_law 111 = .ok (.iadd, 1) := by decide +kernel
theorem d_L_law_112 : decode b_L_law 112 = .ok (.iaload, 1) := by decide +kernel
theorem d_L_law_113 : decode b_L_law 113 = .ok (.invokevirtual 21, 3) := by decide +kernel
theorem d_L_law_116 : decode b_L_law 116 = .ok (.aload_n 2, 1) := by decide +kernel
theorem d_L_law_117 : decode b_L_law 117 = .ok (.aload_n 0, 1) := by decide +kernel
theorem d_L_law_118 : decode b_L_law 118 = .ok (.iload 4, 2) := by decide +kernel
theorem d_L_law_120 : decode b_L_law 120 = .ok (.iconst 1, 1) := by decide +kernel
theorem d_L_law_121 : decode b_L_law 121 = .ok (.iadd, 1) := by decide +kernel
theorem d_L_law_122 : decode b_L_law 122 = .ok (.iaload, 1) := by decide +kernel
theorem d_L_law_123 : decode b_L_law 123 = .ok (.i2l, 1) := by decide +kernel
theorem d_L_law_124 : decode b_L_law 124 = .ok (.bipush 32, 2) := by decide +kernel
theorem d_L_law_126 : decode b_L_law 126 = .ok (.lshl, 1) := by decide +kernel
theorem d_L_law_127 : decode b_L_law 127 = .ok (.aload_n 0, 1) := by decide +kernel
theorem d_L_law_128 : decode b_L_law 128 = .ok (.iload 4, 2) := by decide +kernel
theorem d_L_law_130 : decode b_L_law 130 = .ok (.iconst 2, 1) := by decide +kernel
theorem d_L_law_131 : decode b_L_law 131 = .ok (.iadd, 1) := by decide +kernel
theorem d_L_law_132 : decode b_L_law 132 = .ok (.iaload, 1) := by decide +kernel
theorem d_L_law_133 : decode b_L_law 133 = .ok (.i2l, 1) := by decide +kernel
theorem d_L_law_134 : decode b_L_law 134 = .ok (.ldc2_w 19, 3) := by decide +kernel
theorem d_L_law_137 : decode b_L_law 137 = .ok (.land, 1) := by decide +kernel
theorem d_L_law_138 : decode b_L_law 138 = .ok (.lor, 1) := by decide +kernel
theorem d_L_law_139 : decode b_L_law 139 = .ok (.aload_n 0, 1) := by decide +kernel
theorem d_L_law_140 : decode b_L_law 140 = .ok (.iload 4, 2) := by decide +kernel
theorem d_L_law_142 : decode b_L_law 142 = .ok (.iconst 3, 1) := by decide +kernel
theorem d_L_law_143 : decode b_L_law 143 = .ok (.iadd, 1) := by decide +kernel
theorem d_L_law_144 : decode b_L_law 144 = .ok (.iaload, 1) := by decide +kernel
theorem d_L_law_145 : decode b_L_law 145 = .ok (.invokevirtual 25, 3) := by decide +kernel
theorem d_L_law_148 : decode b_L_law 148 = .ok (.if_icmp .eq 294, 3) := by decide +kernel
theorem d_L_law_151 : decode b_L_law 151 = .ok (.iconst 0, 1) := by decide +kernel
theorem d_L_law_152 : decode b_L_law 152 = .ok (.ireturn, 1) := by decide +kernel
theorem d_L_law_153 : decode b_L_law 153 = .ok (.aload_n 1, 1) := by decide +kernel
theorem d_L_law_154 : decode b_L_law 154 = .ok (.aload_n 0, 1) := by decide +kernel
theorem d_L_law_155 : decode b_L_law 155 = .ok (.iload 4, 2) := by decide +kernel
theorem d_L_law_157 : decode b_L_law 157 = .ok (.iconst 1, 1) := by decide +kernel
theorem d_L_law_158 : decode b_L_law 158 = .ok (.iadd, 1) := by decide +kernel
theorem d_L_law_159 : decode b_L_law 159 = .ok (.iaload, 1) := by decide +kernel
theorem d_L_law_160 : decode b_L_law 160 = .ok (.i2l, 1) := by decide +kernel
theorem d_L_law_161 : decode b_L_law 161 = .ok (.bipush 32, 2) := by decide +kernel
theorem d_L_law_163 : decode b_L_law 163 = .ok (.lshl, 1) := by decide +kernel
theorem d_L_law_164 : decode b_L_law 164 = .ok (.aload_n 0, 1) := by decide +kernel
theorem d_L_law_165 : decode b_L_law 165 = .ok (.iload 4, 2) := by decide +kernel
theorem d_L_law_167 : decode b_L_law 167 = .ok (.iconst 2, 1) := by decide +kernel
theorem d_L_law_168 : decode b_L_law 168 = .ok (.iadd, 1) := by decide +kernel
theorem d_L_law_169 : decode b_L_law 169 = .ok (.iaload, 1) := by decide +kernel
theorem d_L_law_170 : decode b_L_law 170 = .ok (.i2l, 1) := by decide +kernel
theorem d_L_law_171 : decode b_L_law 171 = .ok (.ldc2_w 19, 3) := by decide +kernel
theorem d_L_law_174 : decode b_L_law 174 = .ok (.land, 1) := by decide +kernel
theorem d_L_law_175 : decode b_L_law 175 = .ok (.lor, 1) := by decide +kernel
theorem d_L_law_176 : decode b_L_law 176 = .ok (.aload_n 0, 1) := by decide +kernel
theorem d_L_law_177 : decode b_L_law 177 = .ok (.iload 4, 2) := by decide +kernel
theorem d_L_law_179 : decode b_L_law 179 = .ok (.iconst 3, 1) := by decide +kernel
theorem d_L_law_180 : decode b_L_law 180 = .ok (.iadd, 1) := by decide +kernel
theorem d_L_law_181 : decode b_L_law 181 = .ok (.iaload, 1) := by decide +kernel
theorem d_L_law_182 : decode b_L_law 182 = .ok (.aload_n 0, 1) := by decide +kernel
theorem d_L_law_183 : decode b_L_law 183 = .ok (.iload 4, 2) := by decide +kernel
theorem d_L_law_185 : decode b_L_law 185 = .ok (.iconst 4, 1) := by decide +kernel
theorem d_L_law_186 : decode b_L_law 186 = .ok (.iadd, 1) := by decide +kernel
theorem d_L_law_187 : decode b_L_law 187 = .ok (.iaload, 1) := by decide +kernel
theorem d_L_law_188 : decode b_L_law 188 = .ok (.invokevirtual 26, 3) := by decide +kernel
theorem d_L_law_191 : decode b_L_law 191 = .ok (.aload_n 2, 1) := by decide +kernel
theorem d_L_law_192 : decode b_L_law 192 = .ok (.aload_n 0, 1) := by decide +kernel
theorem d_L_law_193 : decode b_L_law 193 = .ok (.iload 4, 2) := by decide +kernel
theorem d_L_law_195 : decode b_L_law 195 = .ok (.iconst 1, 1) := by decide +kernel
theorem d_L_law_196 : decode b_L_law 196 = .ok (.iadd, 1) := by decide +kernel
theorem d_L_law_197 : decode b_L_law 197 = .ok (.iaload, 1) := by decide +kernel
theorem d_L_law_198 : decode b_L_law 198 = .ok (.i2l, 1) := by decide +kernel
theorem d_L_law_199 : decode b_L_law 199 = .ok (.bipush 32, 2) := by decide +kernel
theorem d_L_law_201 : decode b_L_law 201 = .ok (.lshl, 1) := by decide +kernel
theorem d_L_law_202 : decode b_L_law 202 = .ok (.aload_n 0, 1) := by decide +kernel
theorem d_L_law_203 : decode b_L_law 203 = .ok (.iload 4, 2) := by decide +kernel
theorem d_L_law_205 : decode b_L_law 205 = .ok (.iconst 2, 1) := by decide +kernel
theorem d_L_law_206 : decode b_L_law 206 = .ok (.iadd, 1) := by decide +kernel
theorem d_L_law_207 : decode b_L_law 207 = .ok (.iaload, 1) := by decide +kernel
theorem d_L_law_208 : decode b_L_law 208 = .ok (.i2l, 1) := by decide +kernel
theorem d_L_law_209 : decode b_L_law 209 = .ok (.ldc2_w 19, 3) := by decide +kernel
theorem d_L_law_212 : decode b_L_law 212 = .ok (.land, 1) := by decide +kernel
theorem d_L_law_213 : decode b_L_law 213 = .ok (.lor, 1) := by decide +kernel
theorem d_L_law_214 : decode b_L_law 214 = .ok (.aload_n 0, 1) := by decide +kernel
theorem d_L_law_215 : decode b_L_law 215 = .ok (.iload 4, 2) := by decide +kernel
theorem d_L_law_217 : decode b_L_law 217 = .ok (.iconst 3, 1) := by decide +kernel
theorem d_L_law_218 : decode b_L_law 218 = .ok (.iadd, 1) := by decide +kernel
theorem d_L_law_219 : decode b_L_law 219 = .ok (.iaload, 1) := by decide +kernel
theorem d_L_law_220 : decode b_L_law 220 = .ok (.aload_n 0, 1) := by decide +kernel
theorem d_L_law_221 : decode b_L_law 221 = .ok (.iload 4, 2) := by decide +kernel
theorem d_L_law_223 : decode b_L_law 223 = .ok (.iconst 4, 1) := by decide +kernel
theorem d_L_law_224 : decode b_L_law 224 = .ok (.iadd, 1) := by decide +kernel
theorem d_L_law_225 : decode b_L_law 225 = .ok (.iaload, 1) := by decide +kernel
theorem d_L_law_226 : decode b_L_law 226 = .ok (.invokevirtual 30, 3) := by decide +kernel
theorem d_L_law_229 : decode b_L_law 229 = .ok (.if_icmp .eq 213, 3) := by decide +kernel
theorem d_L_law_232 : decode b_L_law 232 = .ok (.iconst 0, 1) := by decide +kernel
theorem d_L_law_233 : decode b_L_law 233 = .ok (.ireturn, 1) := by decide +kernel
theorem d_L_law_234 : decode b_L_law 234 = .ok (.aload_n 1, 1) := by decide +kernel
theorem d_L_law_235 : decode b_L_law 235 = .ok (.invokevirtual 31, 3) := by decide +kernel
theorem d_L_law_238 : decode b_L_law 238 = .ok (.aload_n 2, 1) := by decide +kernel
theorem d_L_law_239 : decode b_L_law 239 = .ok (.invokevirtual 35, 3) := by decide +kernel
theorem d_L_law_242 : decode b_L_law 242 = .ok (.if_icmp .eq 200, 3) := by decide +kernel
theorem d_L_law_245 : decode b_L_law 245 = .ok (.iconst 0, 1) := by decide +kernel
theorem d_L_law_246 : decode b_L_law 246 = .ok (.ireturn, 1) := by decide +kernel
theorem d_L_law_247 : decode b_L_law 247 = .ok (.aload_n 1, 1) := by decide +kernel
theorem d_L_law_248 : decode b_L_law 248 = .ok (.invokevirtual 36, 3) := by decide +kernel
theorem d_L_law_251 : decode b_L_law 251 = .ok (.aload_n 2, 1) := by decide +kernel
theorem d_L_law_252 : decode b_L_law 252 = .ok (.invokevirtual 40, 3) := by decide +kernel
theorem d_L_law_255 : decode b_L_law 255 = .ok (.if_icmp .eq 187, 3) := by decide +kernel
theorem d_L_law_258 : decode b_L_law 258 = .ok (.iconst 0, 1) := by decide +kernel
theorem d_L_law_259 : decode b_L_law 259 = .ok (.ireturn, 1) := by decide +kernel
theorem d_L_law_260 : decode b_L_law 260 = .ok (.aload_n 1, 1) := by decide +kernel
theorem d_L_law_261 : decode b_L_law 261 = .ok (.aload_n 0, 1) := by decide +kernel
theorem d_L_law_262 : decode b_L_law 262 = .ok (.iload 4, 2) := by decide +kernel
theorem d_L_law_264 : decode b_L_law 264 = .ok (.iconst 1, 1) := by decide +kernel
theorem d_L_law_265 : decode b_L_law 265 = .ok (.iadd, 1) := by decide +kernel
theorem d_L_law_266 : decode b_L_law 266 = .ok (.iaload, 1) := by decide +kernel
theorem d_L_law_267 : decode b_L_law 267 = .ok (.aload_n 0, 1) := by decide +kernel
theorem d_L_law_268 : decode b_L_law 268 = .ok (.iload 4, 2) := by decide +kernel
theorem d_L_law_270 : decode b_L_law 270 = .ok (.iconst 2, 1) := by decide +kernel
theorem d_L_law_271 : decode b_L_law 271 = .ok (.iadd, 1) := by decide +kernel
theorem d_L_law_272 : decode b_L_law 272 = .ok (.iaload, 1) := by decide +kernel
theorem d_L_law_273 : decode b_L_law 273 = .ok (.aload_n 3, 1) := by decide +kernel
theorem d_L_law_274 : decode b_L_law 274 = .ok (.invokestatic 41, 3) := by decide +kernel
theorem d_L_law_277 : decode b_L_law 277 = .ok (.istore 5, 2) := by decide +kernel
theorem d_L_law_279 : decode b_L_law 279 = .ok (.aload_n 2, 1) := by decide +kernel
theorem d_L_law_280 : decode b_L_law 280 = .ok (.aload_n 0, 1) := by decide +kernel
theorem d_L_law_281 : decode b_L_law 281 = .ok (.iload 4, 2) := by decide +kernel
theorem d_L_law_283 : decode b_L_law 283 = .ok (.iconst 1, 1) := by decide +kernel
theorem d_L_law_284 : decode b_L_law 284 = .ok (.iadd, 1) := by decide +kernel
theorem d_L_law_285 : decode b_L_law 285 = .ok (.iaload, 1) := by decide +kernel
theorem d_L_law_286 : decode b_L_law 286 = .ok (.aload_n 0, 1) := by decide +kernel
theorem d_L_law_287 : decode b_L_law 287 = .ok (.iload 4, 2) := by decide +kernel
theorem d_L_law_289 : decode b_L_law 289 = .ok (.iconst 2, 1) := by decide +kernel
theorem d_L_law_290 : decode b_L_law 290 = .ok (.iadd, 1) := by decide +kernel
theorem d_L_law_291 : decode b_L_law 291 = .ok (.iaload, 1) := by decide +kernel
theorem d_L_law_292 : decode b_L_law 292 = .ok (.invokevirtual 46, 3) := by decide +kernel
theorem d_L_law_295 : decode b_L_law 295 = .ok (.istore 6, 2) := by decide +kernel
theorem d_L_law_297 : decode b_L_law 297 = .ok (.aload_n 2, 1) := by decide +kernel
theorem d_L_law_298 : decode b_L_law 298 = .ok (.invokevirtual 47, 3) := by decide +kernel
theorem d_L_law_301 : decode b_L_law 301 = .ok (.iload 5, 2) := by decide +kernel
theorem d_L_law_303 : decode b_L_law 303 = .ok (.if_icmp .eq 5, 3) := by decide +kernel
theorem d_L_law_306 : decode b_L_law 306 = .ok (.iconst 0, 1) := by decide +kernel
theorem d_L_law_307 : decode b_L_law 307 = .ok (.ireturn, 1) := by decide +kernel
theorem d_L_law_308 : decode b_L_law 308 = .ok (.iload 5, 2) := by decide +kernel
theorem d_L_law_310 : decode b_L_law 310 = .ok (.ifCond .ne 22, 3) := by decide +kernel
theorem d_L_law_313 : decode b_L_law 313 = .ok (.aload_n 3, 1) := by decide +kernel
theorem d_L_law_314 : decode b_L_law 314 = .ok (.iconst 0, 1) := by decide +kernel
theorem d_L_law_315 : decode b_L_law 315 = .ok (.laload, 1) := by decide +kernel
theorem d_L_law_316 : decode b_L_law 316 = .ok (.iload 6, 2) := by decide +kernel
theorem d_L_law_318 : decode b_L_law 318 = .ok (.ifCond .eq 7, 3) := by decide +kernel
theorem d_L_law_321 : decode b_L_law 321 = .ok (.lconst 1, 1) := by decide +kernel
theorem d_L_law_322 : decode b_L_law 322 = .ok (.goto 4, 3) := by decide +kernel
theorem d_L_law_325 : decode b_L_law 325 = .ok (.lconst 0, 1) := by decide +kernel
theorem d_L_law_326 : decode b_L_law 326 = .ok (.lcmp, 1) := by decide +kernel
theorem d_L_law_327 : decode b_L_law 327 = .ok (.ifCond .eq 5, 3) := by decide +kernel
theorem d_L_law_330 : decode b_L_law 330 = .ok (.iconst 0, 1) := by decide +kernel
theorem d_L_law_331 : decode b_L_law 331 = .ok (.ireturn, 1) := by decide +kernel
theorem d_L_law_332 : decode b_L_law 332 = .ok (.goto 110, 3) := by decide +kernel
theorem d_L_law_335 : decode b_L_law 335 = .ok (.aload_n 1, 1) := by decide +kernel
theorem d_L_law_336 : decode b_L_law 336 = .ok (.aload_n 0, 1) := by decide +kernel
theorem d_L_law_337 : decode b_L_law 337 = .ok (.iload 4, 2) := by decide +kernel
theorem d_L_law_339 : decode b_L_law 339 = .ok (.iconst 1, 1) := by decide +kernel
theorem d_L_law_340 : decode b_L_law 340 = .ok (.iadd, 1) := by decide +kernel
theorem d_L_law_341 : decode b_L_law 341 = .ok (.iaload, 1) := by decide +kernel
theorem d_L_law_342 : decode b_L_law 342 = .ok (.ifCond .eq 7, 3) := by decide +kernel
theorem d_L_law_345 : decode b_L_law 345 = .ok (.iconst 1, 1) := by decide +kernel
theorem d_L_law_346 : decode b_L_law 346 = .ok (.goto 4, 3) := by decide +kernel
theorem d_L_law_349 : decode b_L_law 349 = .ok (.iconst 0, 1) := by decide +kernel
theorem d_L_law_350 : decode b_L_law 350 = .ok (.aload_n 0, 1) := by decide +kernel
theorem d_L_law_351 : decode b_L_law 351 = .ok (.iload 4, 2) := by decide +kernel
theorem d_L_law_353 : decode b_L_law 353 = .ok (.iconst 2, 1) := by decide +kernel
theorem d_L_law_354 : decode b_L_law 354 = .ok (.iadd, 1) := by decide +kernel
theorem d_L_law_355 : decode b_L_law 355 = .ok (.iaload, 1) := by decide +kernel
theorem d_L_law_356 : decode b_L_law 356 = .ok (.ifCond .eq 7, 3) := by decide +kernel
theorem d_L_law_359 : decode b_L_law 359 = .ok (.iconst 1, 1) := by decide +kernel
theorem d_L_law_360 : decode b_L_law 360 = .ok (.goto 4, 3) := by decide +kernel
theorem d_L_law_363 : decode b_L_law 363 = .ok (.iconst 0, 1) := by decide +kernel
theorem d_L_law_364 : decode b_L_law 364 = .ok (.invokevirtual 50, 3) := by decide +kernel
theorem d_L_law_367 : decode b_L_law 367 = .ok (.aload_n 2, 1) := by decide +kernel
theorem d_L_law_368 : decode b_L_law 368 = .ok (.aload_n 0, 1) := by decide +kernel
theorem d_L_law_369 : decode b_L_law 369 = .ok (.iload 4, 2) := by decide +kernel
theorem d_L_law_371 : decode b_L_law 371 = .ok (.iconst 1, 1) := by decide +kernel
theorem d_L_law_372 : decode b_L_law 372 = .ok (.iadd, 1) := by decide +kernel
theorem d_L_law_373 : decode b_L_law 373 = .ok (.iaload, 1) := by decide +kernel
theorem d_L_law_374 : decode b_L_law 374 = .ok (.ifCond .eq 7, 3) := by decide +kernel
theorem d_L_law_377 : decode b_L_law 377 = .ok (.iconst 1, 1) := by decide +kernel
theorem d_L_law_378 : decode b_L_law 378 = .ok (.goto 4, 3) := by decide +kernel
theorem d_L_law_381 : decode b_L_law 381 = .ok (.iconst 0, 1) := by decide +kernel
theorem d_L_law_382 : decode b_L_law 382 = .ok (.aload_n 0, 1) := by decide +kernel
theorem d_L_law_383 : decode b_L_law 383 = .ok (.iload 4, 2) := by decide +kernel
theorem d_L_law_385 : decode b_L_law 385 = .ok (.iconst 2, 1) := by decide +kernel
theorem d_L_law_386 : decode b_L_law 386 = .ok (.iadd, 1) := by decide +kernel
theorem d_L_law_387 : decode b_L_law 387 = .ok (.iaload, 1) := by decide +kernel
theorem d_L_law_388 : decode b_L_law 388 = .ok (.ifCond .eq 7, 3) := by decide +kernel
theorem d_L_law_391 : decode b_L_law 391 = .ok (.iconst 1, 1) := by decide +kernel
theorem d_L_law_392 : decode b_L_law 392 = .ok (.goto 4, 3) := by decide +kernel
theorem d_L_law_395 : decode b_L_law 395 = .ok (.iconst 0, 1) := by decide +kernel
theorem d_L_law_396 : decode b_L_law 396 = .ok (.invokevirtual 54, 3) := by decide +kernel
theorem d_L_law_399 : decode b_L_law 399 = .ok (.if_icmp .eq 43, 3) := by decide +kernel
theorem d_L_law_402 : decode b_L_law 402 = .ok (.iconst 0, 1) := by decide +kernel
theorem d_L_law_403 : decode b_L_law 403 = .ok (.ireturn, 1) := by decide +kernel
theorem d_L_law_404 : decode b_L_law 404 = .ok (.aload_n 1, 1) := by decide +kernel
theorem d_L_law_405 : decode b_L_law 405 = .ok (.invokevirtual 55, 3) := by decide +kernel
theorem d_L_law_408 : decode b_L_law 408 = .ok (.aload_n 2, 1) := by decide +kernel
theorem d_L_law_409 : decode b_L_law 409 = .ok (.invokevirtual 58, 3) := by decide +kernel
theorem d_L_law_412 : decode b_L_law 412 = .ok (.if_icmp .eq 30, 3) := by decide +kernel
theorem d_L_law_415 : decode b_L_law 415 = .ok (.iconst 0, 1) := by decide +kernel
theorem d_L_law_416 : decode b_L_law 416 = .ok (.ireturn, 1) := by decide +kernel
theorem d_L_law_417 : decode b_L_law 417 = .ok (.aload_n 1, 1) := by decide +kernel
theorem d_L_law_418 : decode b_L_law 418 = .ok (.aload_n 0, 1) := by decide +kernel
theorem d_L_law_419 : decode b_L_law 419 = .ok (.iload 4, 2) := by decide +kernel
theorem d_L_law_421 : decode b_L_law 421 = .ok (.iconst 1, 1) := by decide +kernel
theorem d_L_law_422 : decode b_L_law 422 = .ok (.iadd, 1) := by decide +kernel
theorem d_L_law_423 : decode b_L_law 423 = .ok (.iaload, 1) := by decide +kernel
theorem d_L_law_424 : decode b_L_law 424 = .ok (.invokevirtual 59, 3) := by decide +kernel
theorem d_L_law_427 : decode b_L_law 427 = .ok (.aload_n 2, 1) := by decide +kernel
theorem d_L_law_428 : decode b_L_law 428 = .ok (.aload_n 0, 1) := by decide +kernel
theorem d_L_law_429 : decode b_L_law 429 = .ok (.iload 4, 2) := by decide +kernel
theorem d_L_law_431 : decode b_L_law 431 = .ok (.iconst 1, 1) := by decide +kernel
theorem d_L_law_432 : decode b_L_law 432 = .ok (.iadd, 1) := by decide +kernel
theorem d_L_law_433 : decode b_L_law 433 = .ok (.iaload, 1) := by decide +kernel
theorem d_L_law_434 : decode b_L_law 434 = .ok (.invokevirtual 63, 3) := by decide +kernel
theorem d_L_law_437 : decode b_L_law 437 = .ok (.if_icmp .eq 5, 3) := by decide +kernel
theorem d_L_law_440 : decode b_L_law 440 = .ok (.iconst 0, 1) := by decide +kernel
theorem d_L_law_441 : decode b_L_law 441 = .ok (.ireturn, 1) := by decide +kernel
theorem d_L_law_442 : decode b_L_law 442 = .ok (.iinc 4 5, 3) := by decide +kernel
theorem d_L_law_445 : decode b_L_law 445 = .ok (.goto (-422), 3) := by decide +kernel
theorem d_L_law_448 : decode b_L_law 448 = .ok (.iconst 1, 1) := by decide +kernel
theorem d_L_law_449 : decode b_L_law 449 = .ok (.ireturn, 1) := by decide +kernel
