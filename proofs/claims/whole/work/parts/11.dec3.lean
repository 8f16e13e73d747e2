theorem d_61_0 : decode (bC 61) 0 = .ok (.aload_n 0, 1) := by decide +kernel
theorem d_61_1 : decode (bC 61) 1 = .ok (.invokespecial 1, 3) := by decide +kernel
theorem d_61_4 : decode (bC 61) 4 = .ok (.aload_n 0, 1) := by decide +kernel
theorem d_61_5 : decode (bC 61) 5 = .ok (.bipush 97, 2) := by decide +kernel
theorem d_61_7 : decode (bC 61) 7 = .ok (.newarray .int, 2) := by decide +kernel
theorem d_61_9 : decode (bC 61) 9 = .ok (.putfield 7, 3) := by decide +kernel
theorem d_61_12 : decode (bC 61) 12 = .ok (.aload_n 0, 1) := by decide +kernel
theorem d_61_13 : decode (bC 61) 13 = .ok (.bipush 97, 2) := by decide +kernel
theorem d_61_15 : decode (bC 61) 15 = .ok (.newarray .int, 2) := by decide +kernel
theorem d_61_17 : decode (bC 61) 17 = .ok (.putfield 13, 3) := by decide +kernel
theorem d_61_20 : decode (bC 61) 20 = .ok (.aload_n 0, 1) := by decide +kernel
theorem d_61_21 : decode (bC 61) 21 = .ok (.bipush 97, 2) := by decide +kernel
theorem d_61_23 : decode (bC 61) 23 = .ok (.newarray .int, 2) := by decide +kernel
theorem d_61_25 : decode (bC 61) 25 = .ok (.putfield 16, 3) := by decide +kernel
theorem d_61_28 : decode (bC 61) 28 = .ok (.aload_n 0, 1) := by decide +kernel
theorem d_61_29 : decode (bC 61) 29 = .ok (.sipush 291, 3) := by decide +kernel
theorem d_61_32 : decode (bC 61) 32 = .ok (.newarray .int, 2) := by decide +kernel
theorem d_61_34 : decode (bC 61) 34 = .ok (.putfield 19, 3) := by decide +kernel
theorem d_61_37 : decode (bC 61) 37 = .ok (.aload_n 0, 1) := by decide +kernel
theorem d_61_38 : decode (bC 61) 38 = .ok (.bipush 97, 2) := by decide +kernel
theorem d_61_40 : decode (bC 61) 40 = .ok (.newarray .int, 2) := by decide +kernel
theorem d_61_42 : decode (bC 61) 42 = .ok (.putfield 22, 3) := by decide +kernel
theorem d_61_45 : decode (bC 61) 45 = .ok (.aload_n 0, 1) := by decide +kernel
theorem d_61_46 : decode (bC 61) 46 = .ok (.bipush 97, 2) := by decide +kernel
theorem d_61_48 : decode (bC 61) 48 = .ok (.newarray .int, 2) := by decide +kernel
theorem d_61_50 : decode (bC 61) 50 = .ok (.putfield 25, 3) := by decide +kernel
theorem d_61_53 : decode (bC 61) 53 = .ok (.aload_n 0, 1) := by decide +kernel
theorem d_61_54 : decode (bC 61) 54 = .ok (.sipush 192, 3) := by decide +kernel
theorem d_61_57 : decode (bC 61) 57 = .ok (.newarray .int, 2) := by decide +kernel
theorem d_61_59 : decode (bC 61) 59 = .ok (.putfield 28, 3) := by decide +kernel
theorem d_61_62 : decode (bC 61) 62 = .ok (.aload_n 0, 1) := by decide +kernel
theorem d_61_63 : decode (bC 61) 63 = .ok (.bipush 6, 2) := by decide +kernel
theorem d_61_65 : decode (bC 61) 65 = .ok (.newarray .int, 2) := by decide +kernel
theorem d_61_67 : decode (bC 61) 67 = .ok (.putfield 31, 3) := by decide +kernel
theorem d_61_70 : decode (bC 61) 70 = .ok (.aload_n 0, 1) := by decide +kernel
theorem d_61_71 : decode (bC 61) 71 = .ok (.bipush 12, 2) := by decide +kernel
theorem d_61_73 : decode (bC 61) 73 = .ok (.newarray .int, 2) := by decide +kernel
theorem d_61_75 : decode (bC 61) 75 = .ok (.putfield 34, 3) := by decide +kernel
theorem d_61_78 : decode (bC 61) 78 = .ok (.aload_n 0, 1) := by decide +kernel
theorem d_61_79 : decode (bC 61) 79 = .ok (.bipush 12, 2) := by decide +kernel
theorem d_61_81 : decode (bC 61) 81 = .ok (.newarray .int, 2) := by decide +kernel
theorem d_61_83 : decode (bC 61) 83 = .ok (.putfield 37, 3) := by decide +kernel
theorem d_61_86 : decode (bC 61) 86 = .ok (.aload_n 0, 1) := by decide +kernel
theorem d_61_87 : decode (bC 61) 87 = .ok (.bipush 12, 2) := by decide +kernel
theorem d_61_89 : decode (bC 61) 89 = .ok (.newarray .int, 2) := by decide +kernel
theorem d_61_91 : decode (bC 61) 91 = .ok (.putfield 40, 3) := by decide +kernel
theorem d_61_94 : decode (bC 61) 94 = .ok (.aload_n 0, 1) := by decide +kernel
theorem d_61_95 : decode (bC 61) 95 = .ok (.iconst (-1), 1) := by decide +kernel
theorem d_61_96 : decode (bC 61) 96 = .ok (.putfield 43, 3) := by decide +kernel
theorem d_61_99 : decode (bC 61) 99 = .ok (.aload_n 0, 1) := by decide +kernel
theorem d_61_100 : decode (bC 61) 100 = .ok (.iconst 4, 1) := by decide +kernel
theorem d_61_101 : decode (bC 61) 101 = .ok (.newarray .int, 2) := by decide +kernel
theorem d_61_103 : decode (bC 61) 103 = .ok (.putfield 47, 3) := by decide +kernel
theorem d_61_106 : decode (bC 61) 106 = .ok (.aload_n 0, 1) := by decide +kernel
theorem d_61_107 : decode (bC 61) 107 = .ok (.bipush 12, 2) := by decide +kernel
theorem d_61_109 : decode (bC 61) 109 = .ok (.newarray .boolean, 2) := by decide +kernel
theorem d_61_111 : decode (bC 61) 111 = .ok (.putfield 50, 3) := by decide +kernel
theorem d_61_114 : decode (bC 61) 114 = .ok (.aload_n 0, 1) := by decide +kernel
theorem d_61_115 : decode (bC 61) 115 = .ok (.bipush 12, 2) := by decide +kernel
theorem d_61_117 : decode (bC 61) 117 = .ok (.newarray .int, 2) := by decide +kernel
theorem d_61_119 : decode (bC 61) 119 = .ok (.putfield 54, 3) := by decide +kernel
theorem d_61_122 : decode (bC 61) 122 = .ok (.aload_n 0, 1) := by decide +kernel
theorem d_61_123 : decode (bC 61) 123 = .ok (.bipush 97, 2) := by decide +kernel
theorem d_61_125 : decode (bC 61) 125 = .ok (.newarray .int, 2) := by decide +kernel
theorem d_61_127 : decode (bC 61) 127 = .ok (.putfield 57, 3) := by decide +kernel
theorem d_61_130 : decode (bC 61) 130 = .ok (.aload_n 0, 1) := by decide +kernel
theorem d_61_131 : decode (bC 61) 131 = .ok (.bipush 97, 2) := by decide +kernel
theorem d_61_133 : decode (bC 61) 133 = .ok (.newarray .boolean, 2) := by decide +kernel
theorem d_61_135 : decode (bC 61) 135 = .ok (.putfield 60, 3) := by decide +kernel
theorem d_61_138 : decode (bC 61) 138 = .ok (.aload_n 0, 1) := by decide +kernel
theorem d_61_139 : decode (bC 61) 139 = .ok (.bipush 97, 2) := by decide +kernel
theorem d_61_141 : decode (bC 61) 141 = .ok (.newarray .int, 2) := by decide +kernel
theorem d_61_143 : decode (bC 61) 143 = .ok (.putfield 63, 3) := by decide +kernel
theorem d_61_146 : decode (bC 61) 146 = .ok (.aload_n 0, 1) := by decide +kernel
theorem d_61_147 : decode (bC 61) 147 = .ok (.bipush 97, 2) := by decide +kernel
theorem d_61_149 : decode (bC 61) 149 = .ok (.newarray .int, 2) := by decide +kernel
theorem d_61_151 : decode (bC 61) 151 = .ok (.putfield 66, 3) := by decide +kernel
theorem d_61_154 : decode (bC 61) 154 = .ok (.aload_n 0, 1) := by decide +kernel
theorem d_61_155 : decode (bC 61) 155 = .ok (.iconst 4, 1) := by decide +kernel
theorem d_61_156 : decode (bC 61) 156 = .ok (.newarray .int, 2) := by decide +kernel
theorem d_61_158 : decode (bC 61) 158 = .ok (.putfield 69, 3) := by decide +kernel
theorem d_61_161 : decode (bC 61) 161 = .ok (.aload_n 0, 1) := by decide +kernel
theorem d_61_162 : decode (bC 61) 162 = .ok (.iconst 4, 1) := by decide +kernel
theorem d_61_163 : decode (bC 61) 163 = .ok (.newarray .int, 2) := by decide +kernel
theorem d_61_165 : decode (bC 61) 165 = .ok (.putfield 72, 3) := by decide +kernel
theorem d_61_168 : decode (bC 61) 168 = .ok (.aload_n 0, 1) := by decide +kernel
theorem d_61_169 : decode (bC 61) 169 = .ok (.bipush 97, 2) := by decide +kernel
theorem d_61_171 : decode (bC 61) 171 = .ok (.newarray .boolean, 2) := by decide +kernel
theorem d_61_173 : decode (bC 61) 173 = .ok (.putfield 75, 3) := by decide +kernel
theorem d_61_176 : decode (bC 61) 176 = .ok (.aload_n 0, 1) := by decide +kernel
theorem d_61_177 : decode (bC 61) 177 = .ok (.bipush 12, 2) := by decide +kernel
theorem d_61_179 : decode (bC 61) 179 = .ok (.newarray .boolean, 2) := by decide +kernel
theorem d_61_181 : decode (bC 61) 181 = .ok (.putfield 78, 3) := by decide +kernel
theorem d_61_184 : decode (bC 61) 184 = .ok (.iconst 0, 1) := by decide +kernel
theorem d_61_185 : decode (bC 61) 185 = .ok (.istore_n 1, 1) := by decide +kernel
theorem d_61_186 : decode (bC 61) 186 = .ok (.iload_n 1, 1) := by decide +kernel
theorem d_61_187 : decode (bC 61) 187 = .ok (.bipush 97, 2) := by decide +kernel
theorem d_61_189 : decode (bC 61) 189 = .ok (.if_icmp .ge 16, 3) := by decide +kernel
theorem d_61_192 : decode (bC 61) 192 = .ok (.aload_n 0, 1) := by decide +kernel
theorem d_61_193 : decode (bC 61) 193 = .ok (.getfield 22, 3) := by decide +kernel
theorem d_61_196 : decode (bC 61) 196 = .ok (.iload_n 1, 1) := by decide +kernel
theorem d_61_197 : decode (bC 61) 197 = .ok (.iconst (-1), 1) := by decide +kernel
theorem d_61_198 : decode (bC 61) 198 = .ok (.iastore, 1) := by decide +kernel
theorem d_61_199 : decode (bC 61) 199 = .ok (.iinc 1 1, 3) := by decide +kernel
theorem d_61_202 : decode (bC 61) 202 = .ok (.goto (-16), 3) := by decide +kernel
theorem d_61_205 : decode (bC 61) 205 = .ok (.iconst 0, 1) := by decide +kernel
theorem d_61_206 : decode (bC 61) 206 = .ok (.istore_n 1, 1) := by decide +kernel
theorem d_61_207 : decode (bC 61) 207 = .ok (.iload_n 1, 1) := by decide +kernel
theorem d_61_208 : decode (bC 61) 208 = .ok (.sipush 192, 3) := by decide +kernel
theorem d_61_211 : decode (bC 61) 211 = .ok (.if_icmp .ge 16, 3) := by decide +kernel
theorem d_61_214 : decode (bC 61) 214 = .ok (.aload_n 0, 1) := by decide +kernel
theorem d_61_215 : decode (bC 61) 215 = .ok (.getfield 28, 3) := by decide +kernel
theorem d_61_218 : decode (bC 61) 218 = .ok (.iload_n 1, 1) := by decide +kernel
theorem d_61_219 : decode (bC 61) 219 = .ok (.iconst (-1), 1) := by decide +kernel
theorem d_61_220 : decode (bC 61) 220 = .ok (.iastore, 1) := by decide +kernel
theorem d_61_221 : decode (bC 61) 221 = .ok (.iinc 1 1, 3) := by decide +kernel
theorem d_61_224 : decode (bC 61) 224 = .ok (.goto (-17), 3) := by decide +kernel
theorem d_61_227 : decode (bC 61) 227 = .ok (.iconst 0, 1) := by decide +kernel
theorem d_61_228 : decode (bC 61) 228 = .ok (.istore_n 1, 1) := by decide +kernel
theorem d_61_229 : decode (bC 61) 229 = .ok (.iload_n 1, 1) := by decide +kernel
theorem d_61_230 : decode (bC 61) 230 = .ok (.bipush 12, 2) := by decide +kernel
theorem d_61_232 : decode (bC 61) 232 = .ok (.if_icmp .ge 16, 3) := by decide +kernel
theorem d_61_235 : decode (bC 61) 235 = .ok (.aload_n 0, 1) := by decide +kernel
theorem d_61_236 : decode (bC 61) 236 = .ok (.getfield 40, 3) := by decide +kernel
theorem d_61_239 : decode (bC 61) 239 = .ok (.iload_n 1, 1) := by decide +kernel
theorem d_61_240 : decode (bC 61) 240 = .ok (.iconst (-1), 1) := by decide +kernel
theorem d_61_241 : decode (bC 61) 241 = .ok (.iastore, 1) := by decide +kernel
theorem d_61_242 : decode (bC 61) 242 = .ok (.iinc 1 1, 3) := by decide +kernel
theorem d_61_245 : decode (bC 61) 245 = .ok (.goto (-16), 3) := by decide +kernel
theorem d_61_248 : decode (bC 61) 248 = .ok (.iconst 0, 1) := by decide +kernel
theorem d_61_249 : decode (bC 61) 249 = .ok (.istore_n 1, 1) := by decide +kernel
theorem d_61_250 : decode (bC 61) 250 = .ok (.iload_n 1, 1) := by decide +kernel
theorem d_61_251 : decode (bC 61) 251 = .ok (.bipush 6, 2) := by decide +kernel
theorem d_61_253 : decode (bC 61) 253 = .ok (.if_icmp .ge 16, 3) := by decide +kernel
theorem d_61_256 : decode (bC 61) 256 = .ok (.aload_n 0, 1) := by decide +kernel
theorem d_61_257 : decode (bC 61) 257 = .ok (.getfield 31, 3) := by decide +kernel
theorem d_61_260 : decode (bC 61) 260 = .ok (.iload_n 1, 1) := by decide +kernel
theorem d_61_261 : decode (bC 61) 261 = .ok (.iconst (-1), 1) := by decide +kernel
theorem d_61_262 : decode (bC 61) 262 = .ok (.iastore, 1) := by decide +kernel
theorem d_61_263 : decode (bC 61) 263 = .ok (.iinc 1 1, 3) := by decide +kernel
theorem d_61_266 : decode (bC 61) 266 = .ok (.goto (-16), 3) := by decide +kernel
theorem d_61_269 : decode (bC 61) 269 = .ok (.return_, 1) := by decide +kernel
theorem d_62_0 : decode (bC 62) 0 = .ok (.iload_n 1, 1) := by decide +kernel
theorem d_62_1 : decode (bC 62) 1 = .ok (.ifCond .lt 8, 3) := by decide +kernel
theorem d_62_4 : decode (bC 62) 4 = .ok (.iload_n 1, 1) := by decide +kernel
theorem d_62_5 : decode (bC 62) 5 = .ok (.iconst 5, 1) := by decide +kernel
theorem d_62_6 : decode (bC 62) 6 = .ok (.if_icmp .le 7, 3) := by decide +kernel
theorem d_62_9 : decode (bC 62) 9 = .ok (.iconst 1, 1) := by decide +kernel
theorem d_62_10 : decode (bC 62) 10 = .ok (.goto 4, 3) := by decide +kernel
theorem d_62_13 : decode (bC 62) 13 = .ok (.iconst 0, 1) := by decide +kernel
theorem d_62_14 : decode (bC 62) 14 = .ok (.ireturn, 1) := by decide +kernel
theorem d_63_0 : decode (bC 63) 0 = .ok (.iload_n 1, 1) := by decide +kernel
theorem d_63_1 : decode (bC 63) 1 = .ok (.ifCond .lt 9, 3) := by decide +kernel
theorem d_63_4 : decode (bC 63) 4 = .ok (.iload_n 1, 1) := by decide +kernel
theorem d_63_5 : decode (bC 63) 5 = .ok (.bipush 11, 2) := by decide +kernel
theorem d_63_7 : decode (bC 63) 7 = .ok (.if_icmp .le 7, 3) := by decide +kernel
theorem d_63_10 : decode (bC 63) 10 = .ok (.iconst 1, 1) := by decide +kernel
theorem d_63_11 : decode (bC 63) 11 = .ok (.goto 4, 3) := by decide +kernel
theorem d_63_14 : decode (bC 63) 14 = .ok (.iconst 0, 1) := by decide +kernel
theorem d_63_15 : decode (bC 63) 15 = .ok (.ireturn, 1) := by decide +kernel
theorem d_64_0 : decode (bC 64) 0 = .ok (.iconst 0, 1) := by decide +kernel
theorem d_64_1 : decode (bC 64) 1 = .ok (.istore_n 1, 1) := by decide +kernel
theorem d_64_2 : decode (bC 64) 2 = .ok (.iload_n 1, 1) := by decide +kernel
theorem d_64_3 : decode (bC 64) 3 = .ok (.bipush 97, 2) := by decide +kernel
theorem d_64_5 : decode (bC 64) 5 = .ok (.if_icmp .ge 16, 3) := by decide +kernel
theorem d_64_8 : decode (bC 64) 8 = .ok (.aload_n 0, 1) := by decide +kernel
theorem d_64_9 : decode (bC 64) 9 = .ok (.getfield 75, 3) := by decide +kernel
theorem d_64_12 : decode (bC 64) 12 = .ok (.iload_n 1, 1) := by decide +kernel
theorem d_64_13 : decode (bC 64) 13 = .ok (.iconst 0, 1) := by decide +kernel
theorem d_64_14 : decode (bC 64) 14 = .ok (.bastore, 1) := by decide +kernel
theorem d_64_15 : decode (bC 64) 15 = .ok (.iinc 1 1, 3) := by decide +kernel
theorem d_64_18 : decode (bC 64) 18 = .ok (.goto (-16), 3) := by decide +kernel
theorem d_64_21 : decode (bC 64) 21 = .ok (.iconst 0, 1) := by decide +kernel
theorem d_64_22 : decode (bC 64) 22 = .ok (.istore_n 1, 1) := by decide +kernel
theorem d_64_23 : decode (bC 64) 23 = .ok (.iconst 0, 1) := by decide +kernel
theorem d_64_24 : decode (bC 64) 24 = .ok (.istore_n 2, 1) := by decide +kernel
theorem d_64_25 : decode (bC 64) 25 = .ok (.iload_n 2, 1) := by decide +kernel
theorem d_64_26 : decode (bC 64) 26 = .ok (.bipush 6, 2) := by decide +kernel
theorem d_64_28 : decode (bC 64) 28 = .ok (.if_icmp .ge 59, 3) := by decide +kernel
theorem d_64_31 : decode (bC 64) 31 = .ok (.aload_n 0, 1) := by decide +kernel
theorem d_64_32 : decode (bC 64) 32 = .ok (.getfield 31, 3) := by decide +kernel
theorem d_64_35 : decode (bC 64) 35 = .ok (.iload_n 2, 1) := by decide +kernel
theorem d_64_36 : decode (bC 64) 36 = .ok (.iaload, 1) := by decide +kernel
theorem d_64_37 : decode (bC 64) 37 = .ok (.ifCond .lt 44, 3) := by decide +kernel
theorem d_64_40 : decode (bC 64) 40 = .ok (.aload_n 0, 1) := by decide +kernel
theorem d_64_41 : decode (bC 64) 41 = .ok (.getfield 75, 3) := by decide +kernel
theorem d_64_44 : decode (bC 64) 44 = .ok (.aload_n 0, 1) := by decide +kernel
theorem d_64_45 : decode (bC 64) 45 = .ok (.getfield 31, 3) := by decide +kernel
theorem d_64_48 : decode (bC 64) 48 = .ok (.iload_n 2, 1) := by decide +kernel
theorem d_64_49 : decode (bC 64) 49 = .ok (.iaload, 1) := by decide +kernel
theorem d_64_50 : decode (bC 64) 50 = .ok (.baload, 1) := by decide +kernel
theorem d_64_51 : decode (bC 64) 51 = .ok (.ifCond .ne 30, 3) := by decide +kernel
theorem d_64_54 : decode (bC 64) 54 = .ok (.aload_n 0, 1) := by decide +kernel
theorem d_64_55 : decode (bC 64) 55 = .ok (.getfield 75, 3) := by decide +kernel
theorem d_64_58 : decode (bC 64) 58 = .ok (.aload_n 0, 1) := by decide +kernel
theorem d_64_59 : decode (bC 64) 59 = .ok (.getfield 31, 3) := by decide +kernel
theorem d_64_62 : decode (bC 64) 62 = .ok (.iload_n 2, 1) := by decide +kernel
theorem d_64_63 : decode (bC 64) 63 = .ok (.iaload, 1) := by decide +kernel
theorem d_64_64 : decode (bC 64) 64 = .ok (.iconst 1, 1) := by decide +kernel
theorem d_64_65 : decode (bC 64) 65 = .ok (.bastore, 1) := by decide +kernel
theorem d_64_66 : decode (bC 64) 66 = .ok (.aload_n 0, 1) := by decide +kernel
theorem d_64_67 : decode (bC 64) 67 = .ok (.getfield 57, 3) := by decide +kernel
theorem d_64_70 : decode (bC 64) 70 = .ok (.iload_n 1, 1) := by decide +kernel
theorem d_64_71 : decode (bC 64) 71 = .ok (.aload_n 0, 1) := by decide +kernel
theorem d_64_72 : decode (bC 64) 72 = .ok (.getfield 31, 3) := by decide +kernel
theorem d_64_75 : decode (bC 64) 75 = .ok (.iload_n 2, 1) := by decide +kernel
theorem d_64_76 : decode (bC 64) 76 = .ok (.iaload, 1) := by decide +kernel
theorem d_64_77 : decode (bC 64) 77 = .ok (.iastore, 1) := by decide +kernel
theorem d_64_78 : decode (bC 64) 78 = .ok (.iinc 1 1, 3) := by decide +kernel
theorem d_64_81 : decode (bC 64) 81 = .ok (.iinc 2 1, 3) := by decide +kernel
theorem d_64_84 : decode (bC 64) 84 = .ok (.goto (-59), 3) := by decide +kernel
theorem d_64_87 : decode (bC 64) 87 = .ok (.iconst 0, 1) := by decide +kernel
theorem d_64_88 : decode (bC 64) 88 = .ok (.istore_n 2, 1) := by decide +kernel
theorem d_64_89 : decode (bC 64) 89 = .ok (.iload_n 2, 1) := by decide +kernel
theorem d_64_90 : decode (bC 64) 90 = .ok (.iload_n 1, 1) := by decide +kernel
theorem d_64_91 : decode (bC 64) 91 = .ok (.if_icmp .ge 85, 3) := by decide +kernel
theorem d_64_94 : decode (bC 64) 94 = .ok (.aload_n 0, 1) := by decide +kernel
theorem d_64_95 : decode (bC 64) 95 = .ok (.getfield 57, 3) := by decide +kernel
theorem d_64_98 : decode (bC 64) 98 = .ok (.iload_n 2, 1) := by decide +kernel
theorem d_64_99 : decode (bC 64) 99 = .ok (.iaload, 1) := by decide +kernel
theorem d_64_100 : decode (bC 64) 100 = .ok (.istore_n 3, 1) := by decide +kernel
theorem d_64_101 : decode (bC 64) 101 = .ok (.iconst 3, 1) := by decide +kernel
theorem d_64_102 : decode (bC 64) 102 = .ok (.iload_n 3, 1) := by decide +kernel
theorem d_64_103 : decode (bC 64) 103 = .ok (.imul, 1) := by decide +kernel
theorem d_64_104 : decode (bC 64) 104 = .ok (.istore 4, 2) := by decide +kernel
theorem d_64_106 : decode (bC 64) 106 = .ok (.iload 4, 2) := by decide +kernel
theorem d_64_108 : decode (bC 64) 108 = .ok (.iconst 3, 1) := by decide +kernel
theorem d_64_109 : decode (bC 64) 109 = .ok (.iload_n 3, 1) := by decide +kernel
theorem d_64_110 : decode (bC 64) 110 = .ok (.imul, 1) := by decide +kernel
theorem d_64_111 : decode (bC 64) 111 = .ok (.aload_n 0, 1) := by decide +kernel
theorem d_64_112 : decode (bC 64) 112 = .ok (.getfield 16, 3) := by decide +kernel
theorem d_64_115 : decode (bC 64) 115 = .ok (.iload_n 3, 1) := by decide +kernel
theorem d_64_116 : decode (bC 64) 116 = .ok (.iaload, 1) := by decide +kernel
theorem d_64_117 : decode (bC 64) 117 = .ok (.iadd, 1) := by decide +kernel
theorem d_64_118 : decode (bC 64) 118 = .ok (.if_icmp .ge 52, 3) := by decide +kernel
theorem d_64_121 : decode (bC 64) 121 = .ok (.aload_n 0, 1) := by decide +kernel
theorem d_64_122 : decode (bC 64) 122 = .ok (.getfield 19, 3) := by decide +kernel
theorem d_64_125 : decode (bC 64) 125 = .ok (.iload 4, 2) := by decide +kernel
theorem d_64_127 : decode (bC 64) 127 = .ok (.iaload, 1) := by decide +kernel
theorem d_64_128 : decode (bC 64) 128 = .ok (.istore 5, 2) := by decide +kernel
theorem d_64_130 : decode (bC 64) 130 = .ok (.iload 5, 2) := by decide +kernel
theorem d_64_132 : decode (bC 64) 132 = .ok (.ifCond .lt 32, 3) := by decide +kernel
theorem d_64_135 : decode (bC 64) 135 = .ok (.aload_n 0, 1) := by decide +kernel
theorem d_64_136 : decode (bC 64) 136 = .ok (.getfield 75, 3) := by decide +kernel
theorem d_64_139 : decode (bC 64) 139 = .ok (.iload 5, 2) := by decide +kernel
theorem d_64_141 : decode (bC 64) 141 = .ok (.baload, 1) := by decide +kernel
theorem d_64_142 : decode (bC 64) 142 = .ok (.ifCond .ne 22, 3) := by decide +kernel
theorem d_64_145 : decode (bC 64) 145 = .ok (.aload_n 0, 1) := by decide +kernel
theorem d_64_146 : decode (bC 64) 146 = .ok (.getfield 75, 3) := by decide +kernel
theorem d_64_149 : decode (bC 64) 149 = .ok (.iload 5, 2) := by decide +kernel
theorem d_64_151 : decode (bC 64) 151 = .ok (.iconst 1, 1) := by decide +kernel
theorem d_64_152 : decode (bC 64) 152 = .ok (.bastore, 1) := by decide +kernel
theorem d_64_153 : decode (bC 64) 153 = .ok (.aload_n 0, 1) := by decide +kernel
theorem d_64_154 : decode (bC 64) 154 = .ok (.getfield 57, 3) := by decide +kernel
theorem d_64_157 : decode (bC 64) 157 = .ok (.iload_n 1, 1) := by decide +kernel
theorem d_64_158 : decode (bC 64) 158 = .ok (.iload 5, 2) := by decide +kernel
theorem d_64_160 : decode (bC 64) 160 = .ok (.iastore, 1) := by decide +kernel
theorem d_64_161 : decode (bC 64) 161 = .ok (.iinc 1 1, 3) := by decide +kernel
theorem d_64_164 : decode (bC 64) 164 = .ok (.iinc 4 1, 3) := by decide +kernel
theorem d_64_167 : decode (bC 64) 167 = .ok (.goto (-61), 3) := by decide +kernel
theorem d_64_170 : decode (bC 64) 170 = .ok (.iinc 2 1, 3) := by decide +kernel
theorem d_64_173 : decode (bC 64) 173 = .ok (.goto (-84), 3) := by decide +kernel
theorem d_64_176 : decode (bC 64) 176 = .ok (.return_, 1) := by decide +kernel
theorem d_65_0 : decode (bC 65) 0 = .ok (.aload_n 0, 1) := by decide +kernel
theorem d_65_1 : decode (bC 65) 1 = .ok (.invokevirtual 81, 3) := by decide +kernel
theorem d_65_4 : decode (bC 65) 4 = .ok (.iconst 0, 1) := by decide +kernel
theorem d_65_5 : decode (bC 65) 5 = .ok (.istore_n 1, 1) := by decide +kernel
theorem d_65_6 : decode (bC 65) 6 = .ok (.iconst 0, 1) := by decide +kernel
theorem d_65_7 : decode (bC 65) 7 = .ok (.istore_n 2, 1) := by decide +kernel
theorem d_65_8 : decode (bC 65) 8 = .ok (.iload_n 2, 1) := by decide +kernel
theorem d_65_9 : decode (bC 65) 9 = .ok (.bipush 12, 2) := by decide +kernel
theorem d_65_11 : decode (bC 65) 11 = .ok (.if_icmp .ge 36, 3) := by decide +kernel
theorem d_65_14 : decode (bC 65) 14 = .ok (.aload_n 0, 1) := by decide +kernel
theorem d_65_15 : decode (bC 65) 15 = .ok (.getfield 34, 3) := by decide +kernel
theorem d_65_18 : decode (bC 65) 18 = .ok (.iload_n 2, 1) := by decide +kernel
theorem d_65_19 : decode (bC 65) 19 = .ok (.iaload, 1) := by decide +kernel
theorem d_65_20 : decode (bC 65) 20 = .ok (.iconst 1, 1) := by decide +kernel
theorem d_65_21 : decode (bC 65) 21 = .ok (.if_icmp .lt 20, 3) := by decide +kernel
theorem d_65_24 : decode (bC 65) 24 = .ok (.aload_n 0, 1) := by decide +kernel
theorem d_65_25 : decode (bC 65) 25 = .ok (.getfield 34, 3) := by decide +kernel
theorem d_65_28 : decode (bC 65) 28 = .ok (.iload_n 2, 1) := by decide +kernel
theorem d_65_29 : decode (bC 65) 29 = .ok (.iaload, 1) := by decide +kernel
theorem d_65_30 : decode (bC 65) 30 = .ok (.iconst 3, 1) := by decide +kernel
theorem d_65_31 : decode (bC 65) 31 = .ok (.if_icmp .gt 10, 3) := by decide +kernel
theorem d_65_34 : decode (bC 65) 34 = .ok (.aload_n 0, 1) := by decide +kernel
theorem d_65_35 : decode (bC 65) 35 = .ok (.getfield 40, 3) := by decide +kernel
theorem d_65_38 : decode (bC 65) 38 = .ok (.iload_n 2, 1) := by decide +kernel
theorem d_65_39 : decode (bC 65) 39 = .ok (.iconst 0, 1) := by decide +kernel
theorem d_65_40 : decode (bC 65) 40 = .ok (.iastore, 1) := by decide +kernel
theorem d_65_41 : decode (bC 65) 41 = .ok (.iinc 2 1, 3) := by decide +kernel
theorem d_65_44 : decode (bC 65) 44 = .ok (.goto (-36), 3) := by decide +kernel
theorem d_65_47 : decode (bC 65) 47 = .ok (.iconst 0, 1) := by decide +kernel
theorem d_65_48 : decode (bC 65) 48 = .ok (.istore_n 2, 1) := by decide +kernel
theorem d_65_49 : decode (bC 65) 49 = .ok (.iload_n 2, 1) := by decide +kernel
theorem d_65_50 : decode (bC 65) 50 = .ok (.bipush 97, 2) := by decide +kernel
theorem d_65_52 : decode (bC 65) 52 = .ok (.if_icmp .ge 80, 3) := by decide +kernel
theorem d_65_55 : decode (bC 65) 55 = .ok (.aload_n 0, 1) := by decide +kernel
theorem d_65_56 : decode (bC 65) 56 = .ok (.getfield 22, 3) := by decide +kernel
theorem d_65_59 : decode (bC 65) 59 = .ok (.iload_n 2, 1) := by decide +kernel
theorem d_65_60 : decode (bC 65) 60 = .ok (.iaload, 1) := by decide +kernel
theorem d_65_61 : decode (bC 65) 61 = .ok (.ifCond .lt 65, 3) := by decide +kernel
theorem d_65_64 : decode (bC 65) 64 = .ok (.aload_n 0, 1) := by decide +kernel
theorem d_65_65 : decode (bC 65) 65 = .ok (.getfield 75, 3) := by decide +kernel
theorem d_65_68 : decode (bC 65) 68 = .ok (.iload_n 2, 1) := by decide +kernel
theorem d_65_69 : decode (bC 65) 69 = .ok (.baload, 1) := by decide +kernel
theorem d_65_70 : decode (bC 65) 70 = .ok (.ifCond .eq 56, 3) := by decide +kernel
theorem d_65_73 : decode (bC 65) 73 = .ok (.iload_n 1, 1) := by decide +kernel
theorem d_65_74 : decode (bC 65) 74 = .ok (.aload_n 0, 1) := by decide +kernel
theorem d_65_75 : decode (bC 65) 75 = .ok (.getfield 13, 3) := by decide +kernel
theorem d_65_78 : decode (bC 65) 78 = .ok (.iload_n 2, 1) := by decide +kernel
theorem d_65_79 : decode (bC 65) 79 = .ok (.iaload, 1) := by decide +kernel
theorem d_65_80 : decode (bC 65) 80 = .ok (.iadd, 1) := by decide +kernel
theorem d_65_81 : decode (bC 65) 81 = .ok (.istore_n 1, 1) := by decide +kernel
theorem d_65_82 : decode (bC 65) 82 = .ok (.aload_n 0, 1) := by decide +kernel
theorem d_65_83 : decode (bC 65) 83 = .ok (.getfield 34, 3) := by decide +kernel
theorem d_65_86 : decode (bC 65) 86 = .ok (.aload_n 0, 1) := by decide +kernel
theorem d_65_87 : decode (bC 65) 87 = .ok (.getfield 22, 3) := by decide +kernel
theorem d_65_90 : decode (bC 65) 90 = .ok (.iload_n 2, 1) := by decide +kernel
theorem d_65_91 : decode (bC 65) 91 = .ok (.iaload, 1) := by decide +kernel
theorem d_65_92 : decode (bC 65) 92 = .ok (.iaload, 1) := by decide +kernel
theorem d_65_93 : decode (bC 65) 93 = .ok (.iconst 4, 1) := by decide +kernel
theorem d_65_94 : decode (bC 65) 94 = .ok (.if_icmp .eq 32, 3) := by decide +kernel
theorem d_65_97 : decode (bC 65) 97 = .ok (.aload_n 0, 1) := by decide +kernel
theorem d_65_98 : decode (bC 65) 98 = .ok (.getfield 40, 3) := by decide +kernel
theorem d_65_101 : decode (bC 65) 101 = .ok (.aload_n 0, 1) := by decide +kernel
theorem d_65_102 : decode (bC 65) 102 = .ok (.getfield 22, 3) := by decide +kernel
theorem d_65_105 : decode (bC 65) 105 = .ok (.iload_n 2, 1) := by decide +kernel
theorem d_65_106 : decode (bC 65) 106 = .ok (.iaload, 1) := by decide +kernel
theorem d_65_107 : decode (bC 65) 107 = .ok (.aload_n 0, 1) := by decide +kernel
theorem d_65_108 : decode (bC 65) 108 = .ok (.getfield 40, 3) := by decide +kernel
theorem d_65_111 : decode (bC 65) 111 = .ok (.aload_n 0, 1) := by decide +kernel
theorem d_65_112 : decode (bC 65) 112 = .ok (.getfield 22, 3) := by decide +kernel
theorem d_65_115 : decode (bC 65) 115 = .ok (.iload_n 2, 1) := by decide +kernel
theorem d_65_116 : decode (bC 65) 116 = .ok (.iaload, 1) := by decide +kernel
theorem d_65_117 : decode (bC 65) 117 = .ok (.iaload, 1) := by decide +kernel
theorem d_65_118 : decode (bC 65) 118 = .ok (.aload_n 0, 1) := by decide +kernel
theorem d_65_119 : decode (bC 65) 119 = .ok (.getfield 13, 3) := by decide +kernel
theorem d_65_122 : decode (bC 65) 122 = .ok (.iload_n 2, 1) := by decide +kernel
theorem d_65_123 : decode (bC 65) 123 = .ok (.iaload, 1) := by decide +kernel
theorem d_65_124 : decode (bC 65) 124 = .ok (.iadd, 1) := by decide +kernel
theorem d_65_125 : decode (bC 65) 125 = .ok (.iastore, 1) := by decide +kernel
theorem d_65_126 : decode (bC 65) 126 = .ok (.iinc 2 1, 3) := by decide +kernel
theorem d_65_129 : decode (bC 65) 129 = .ok (.goto (-80), 3) := by decide +kernel
theorem d_65_132 : decode (bC 65) 132 = .ok (.iload_n 1, 1) := by decide +kernel
theorem d_65_133 : decode (bC 65) 133 = .ok (.ireturn, 1) := by decide +kernel
theorem d_66_0 : decode (bC 66) 0 = .ok (.aload_n 0, 1) := by decide +kernel
theorem d_66_1 : decode (bC 66) 1 = .ok (.getfield 34, 3) := by decide +kernel
theorem d_66_4 : decode (bC 66) 4 = .ok (.iload_n 1, 1) := by decide +kernel
theorem d_66_5 : decode (bC 66) 5 = .ok (.iconst 0, 1) := by decide +kernel
theorem d_66_6 : decode (bC 66) 6 = .ok (.iastore, 1) := by decide +kernel
theorem d_66_7 : decode (bC 66) 7 = .ok (.aload_n 0, 1) := by decide +kernel
theorem d_66_8 : decode (bC 66) 8 = .ok (.getfield 37, 3) := by decide +kernel
theorem d_66_11 : decode (bC 66) 11 = .ok (.iload_n 1, 1) := by decide +kernel
theorem d_66_12 : decode (bC 66) 12 = .ok (.iconst 0, 1) := by decide +kernel
theorem d_66_13 : decode (bC 66) 13 = .ok (.iastore, 1) := by decide +kernel
theorem d_66_14 : decode (bC 66) 14 = .ok (.aload_n 0, 1) := by decide +kernel
theorem d_66_15 : decode (bC 66) 15 = .ok (.getfield 40, 3) := by decide +kernel
theorem d_66_18 : decode (bC 66) 18 = .ok (.iload_n 1, 1) := by decide +kernel
theorem d_66_19 : decode (bC 66) 19 = .ok (.iconst (-1), 1) := by decide +kernel
theorem d_66_20 : decode (bC 66) 20 = .ok (.iastore, 1) := by decide +kernel
theorem d_66_21 : decode (bC 66) 21 = .ok (.return_, 1) := by decide +kernel
theorem d_67_0 : decode (bC 67) 0 = .ok (.aload_n 0, 1) := by decide +kernel
theorem d_67_1 : decode (bC 67) 1 = .ok (.getfield 22, 3) := by decide +kernel
theorem d_67_4 : decode (bC 67) 4 = .ok (.iload_n 1, 1) := by decide +kernel
theorem d_67_5 : decode (bC 67) 5 = .ok (.iload_n 2, 1) := by decide +kernel
theorem d_67_6 : decode (bC 67) 6 = .ok (.iastore, 1) := by decide +kernel
theorem d_67_7 : decode (bC 67) 7 = .ok (.aload_n 0, 1) := by decide +kernel
theorem d_67_8 : decode (bC 67) 8 = .ok (.getfield 25, 3) := by decide +kernel
theorem d_67_11 : decode (bC 67) 11 = .ok (.iload_n 1, 1) := by decide +kernel
theorem d_67_12 : decode (bC 67) 12 = .ok (.iload_n 3, 1) := by decide +kernel
theorem d_67_13 : decode (bC 67) 13 = .ok (.iastore, 1) := by decide +kernel
theorem d_67_14 : decode (bC 67) 14 = .ok (.aload_n 0, 1) := by decide +kernel
theorem d_67_15 : decode (bC 67) 15 = .ok (.getfield 28, 3) := by decide +kernel
theorem d_67_18 : decode (bC 67) 18 = .ok (.bipush 16, 2) := by decide +kernel
theorem d_67_20 : decode (bC 67) 20 = .ok (.iload_n 2, 1) := by decide +kernel
theorem d_67_21 : decode (bC 67) 21 = .ok (.imul, 1) := by decide +kernel
theorem d_67_22 : decode (bC 67) 22 = .ok (.iload_n 3, 1) := by decide +kernel
theorem d_67_23 : decode (bC 67) 23 = .ok (.iadd, 1) := by decide +kernel
theorem d_67_24 : decode (bC 67) 24 = .ok (.iload_n 1, 1) := by decide +kernel
theorem d_67_25 : decode (bC 67) 25 = .ok (.iastore, 1) := by decide +kernel
theorem d_67_26 : decode (bC 67) 26 = .ok (.return_, 1) := by decide +kernel
theorem d_68_0 : decode (bC 68) 0 = .ok (.iconst 0, 1) := by decide +kernel
theorem d_68_1 : decode (bC 68) 1 = .ok (.istore_n 2, 1) := by decide +kernel
theorem d_68_2 : decode (bC 68) 2 = .ok (.iconst 0, 1) := by decide +kernel
theorem d_68_3 : decode (bC 68) 3 = .ok (.istore_n 3, 1) := by decide +kernel
theorem d_68_4 : decode (bC 68) 4 = .ok (.iload_n 3, 1) := by decide +kernel
theorem d_68_5 : decode (bC 68) 5 = .ok (.bipush 97, 2) := by decide +kernel
theorem d_68_7 : decode (bC 68) 7 = .ok (.if_icmp .ge 88, 3) := by decide +kernel
theorem d_68_10 : decode (bC 68) 10 = .ok (.iconst 3, 1) := by decide +kernel
theorem d_68_11 : decode (bC 68) 11 = .ok (.iload_n 3, 1) := by decide +kernel
theorem d_68_12 : decode (bC 68) 12 = .ok (.imul, 1) := by decide +kernel
theorem d_68_13 : decode (bC 68) 13 = .ok (.istore 4, 2) := by decide +kernel
theorem d_68_15 : decode (bC 68) 15 = .ok (.iload 4, 2) := by decide +kernel
theorem d_68_17 : decode (bC 68) 17 = .ok (.iconst 3, 1) := by decide +kernel
theorem d_68_18 : decode (bC 68) 18 = .ok (.iload_n 3, 1) := by decide +kernel
theorem d_68_19 : decode (bC 68) 19 = .ok (.imul, 1) := by decide +kernel
theorem d_68_20 : decode (bC 68) 20 = .ok (.aload_n 0, 1) := by decide +kernel
theorem d_68_21 : decode (bC 68) 21 = .ok (.getfield 16, 3) := by decide +kernel
theorem d_68_24 : decode (bC 68) 24 = .ok (.iload_n 3, 1) := by decide +kernel
theorem d_68_25 : decode (bC 68) 25 = .ok (.iaload, 1) := by decide +kernel
theorem d_68_26 : decode (bC 68) 26 = .ok (.iadd, 1) := by decide +kernel
theorem d_68_27 : decode (bC 68) 27 = .ok (.if_icmp .ge 62, 3) := by decide +kernel
theorem d_68_30 : decode (bC 68) 30 = .ok (.aload_n 0, 1) := by decide +kernel
theorem d_68_31 : decode (bC 68) 31 = .ok (.getfield 22, 3) := by decide +kernel
theorem d_68_34 : decode (bC 68) 34 = .ok (.iload_n 3, 1) := by decide +kernel
theorem d_68_35 : decode (bC 68) 35 = .ok (.iaload, 1) := by decide +kernel
theorem d_68_36 : decode (bC 68) 36 = .ok (.ifCond .lt 53, 3) := by decide +kernel
theorem d_68_39 : decode (bC 68) 39 = .ok (.aload_n 0, 1) := by decide +kernel
theorem d_68_40 : decode (bC 68) 40 = .ok (.getfield 22, 3) := by decide +kernel
theorem d_68_43 : decode (bC 68) 43 = .ok (.iload_n 3, 1) := by decide +kernel
theorem d_68_44 : decode (bC 68) 44 = .ok (.iaload, 1) := by decide +kernel
theorem d_68_45 : decode (bC 68) 45 = .ok (.iload_n 1, 1) := by decide +kernel
theorem d_68_46 : decode (bC 68) 46 = .ok (.if_icmp .eq 43, 3) := by decide +kernel
theorem d_68_49 : decode (bC 68) 49 = .ok (.iload_n 2, 1) := by decide +kernel
theorem d_68_50 : decode (bC 68) 50 = .ok (.aload_n 0, 1) := by decide +kernel
theorem d_68_51 : decode (bC 68) 51 = .ok (.getfield 19, 3) := by decide +kernel
theorem d_68_54 : decode (bC 68) 54 = .ok (.iload 4, 2) := by decide +kernel
theorem d_68_56 : decode (bC 68) 56 = .ok (.iaload, 1) := by decide +kernel
theorem d_68_57 : decode (bC 68) 57 = .ok (.ifCond .lt 23, 3) := by decide +kernel
theorem d_68_60 : decode (bC 68) 60 = .ok (.aload_n 0, 1) := by decide +kernel
theorem d_68_61 : decode (bC 68) 61 = .ok (.getfield 22, 3) := by decide +kernel
theorem d_68_64 : decode (bC 68) 64 = .ok (.aload_n 0, 1) := by decide +kernel
theorem d_68_65 : decode (bC 68) 65 = .ok (.getfield 19, 3) := by decide +kernel
theorem d_68_68 : decode (bC 68) 68 = .ok (.iload 4, 2) := by decide +kernel
theorem d_68_70 : decode (bC 68) 70 = .ok (.iaload, 1) := by decide +kernel
theorem d_68_71 : decode (bC 68) 71 = .ok (.iaload, 1) := by decide +kernel
theorem d_68_72 : decode (bC 68) 72 = .ok (.iload_n 1, 1) := by decide +kernel
theorem d_68_73 : decode (bC 68) 73 = .ok (.if_icmp .ne 7, 3) := by decide +kernel
theorem d_68_76 : decode (bC 68) 76 = .ok (.iconst 1, 1) := by decide +kernel
theorem d_68_77 : decode (bC 68) 77 = .ok (.goto 4, 3) := by decide +kernel
theorem d_68_80 : decode (bC 68) 80 = .ok (.iconst 0, 1) := by decide +kernel
theorem d_68_81 : decode (bC 68) 81 = .ok (.iadd, 1) := by decide +kernel
theorem d_68_82 : decode (bC 68) 82 = .ok (.istore_n 2, 1) := by decide +kernel
theorem d_68_83 : decode (bC 68) 83 = .ok (.iinc 4 1, 3) := by decide +kernel
theorem d_68_86 : decode (bC 68) 86 = .ok (.goto (-71), 3) := by decide +kernel
theorem d_68_89 : decode (bC 68) 89 = .ok (.iinc 3 1, 3) := by decide +kernel
theorem d_68_92 : decode (bC 68) 92 = .ok (.goto (-88), 3) := by decide +kernel
theorem d_68_95 : decode (bC 68) 95 = .ok (.iload_n 2, 1) := by decide +kernel
theorem d_68_96 : decode (bC 68) 96 = .ok (.ireturn, 1) := by decide +kernel
theorem d_69_0 : decode (bC 69) 0 = .ok (.lconst 0, 1) := by decide +kernel
theorem d_69_1 : decode (bC 69) 1 = .ok (.lstore_n 2, 1) := by decide +kernel
theorem d_69_2 : decode (bC 69) 2 = .ok (.iconst 0, 1) := by decide +kernel
theorem d_69_3 : decode (bC 69) 3 = .ok (.istore 4, 2) := by decide +kernel
theorem d_69_5 : decode (bC 69) 5 = .ok (.iload 4, 2) := by decide +kernel
theorem d_69_7 : decode (bC 69) 7 = .ok (.bipush 12, 2) := by decide +kernel
theorem d_69_9 : decode (bC 69) 9 = .ok (.if_icmp .ge 17, 3) := by decide +kernel
theorem d_69_12 : decode (bC 69) 12 = .ok (.aload_n 0, 1) := by decide +kernel
theorem d_69_13 : decode (bC 69) 13 = .ok (.getfield 78, 3) := by decide +kernel
theorem d_69_16 : decode (bC 69) 16 = .ok (.iload 4, 2) := by decide +kernel
theorem d_69_18 : decode (bC 69) 18 = .ok (.iconst 0, 1) := by decide +kernel
theorem d_69_19 : decode (bC 69) 19 = .ok (.bastore, 1) := by decide +kernel
theorem d_69_20 : decode (bC 69) 20 = .ok (.iinc 4 1, 3) := by decide +kernel
theorem d_69_23 : decode (bC 69) 23 = .ok (.goto (-18), 3) := by decide +kernel
theorem d_69_26 : decode (bC 69) 26 = .ok (.iconst (-1), 1) := by decide +kernel
theorem d_69_27 : decode (bC 69) 27 = .ok (.istore 4, 2) := by decide +kernel
theorem d_69_29 : decode (bC 69) 29 = .ok (.iconst 0, 1) := by decide +kernel
theorem d_69_30 : decode (bC 69) 30 = .ok (.istore 5, 2) := by decide +kernel
theorem d_69_32 : decode (bC 69) 32 = .ok (.iload 5, 2) := by decide +kernel
theorem d_69_34 : decode (bC 69) 34 = .ok (.bipush 12, 2) := by decide +kernel
theorem d_69_36 : decode (bC 69) 36 = .ok (.if_icmp .ge 170, 3) := by decide +kernel
theorem d_69_39 : decode (bC 69) 39 = .ok (.iconst (-1), 1) := by decide +kernel
theorem d_69_40 : decode (bC 69) 40 = .ok (.istore 6, 2) := by decide +kernel
theorem d_69_42 : decode (bC 69) 42 = .ok (.iconst 0, 1) := by decide +kernel
theorem d_69_43 : decode (bC 69) 43 = .ok (.istore 7, 2) := by decide +kernel
theorem d_69_45 : decode (bC 69) 45 = .ok (.iload 7, 2) := by decide +kernel
theorem d_69_47 : decode (bC 69) 47 = .ok (.bipush 12, 2) := by decide +kernel
theorem d_69_49 : decode (bC 69) 49 = .ok (.if_icmp .ge 95, 3) := by decide +kernel
theorem d_69_52 : decode (bC 69) 52 = .ok (.aload_n 0, 1) := by decide +kernel
theorem d_69_53 : decode (bC 69) 53 = .ok (.getfield 34, 3) := by decide +kernel
theorem d_69_56 : decode (bC 69) 56 = .ok (.iload 7, 2) := by decide +kernel
theorem d_69_58 : decode (bC 69) 58 = .ok (.iaload, 1) := by decide +kernel
theorem d_69_59 : decode (bC 69) 59 = .ok (.iconst 3, 1) := by decide +kernel
theorem d_69_60 : decode (bC 69) 60 = .ok (.if_icmp .ne 34, 3) := by decide +kernel
theorem d_69_63 : decode (bC 69) 63 = .ok (.aload_n 0, 1) := by decide +kernel
theorem d_69_64 : decode (bC 69) 64 = .ok (.getfield 40, 3) := by decide +kernel
theorem d_69_67 : decode (bC 69) 67 = .ok (.iload 7, 2) := by decide +kernel
theorem d_69_69 : decode (bC 69) 69 = .ok (.iaload, 1) := by decide +kernel
theorem d_69_70 : decode (bC 69) 70 = .ok (.ifCond .lt 24, 3) := by decide +kernel
theorem d_69_73 : decode (bC 69) 73 = .ok (.aload_n 0, 1) := by decide +kernel
theorem d_69_74 : decode (bC 69) 74 = .ok (.getfield 37, 3) := by decide +kernel
theorem d_69_77 : decode (bC 69) 77 = .ok (.iload 7, 2) := by decide +kernel
theorem d_69_79 : decode (bC 69) 79 = .ok (.iaload, 1) := by decide +kernel
theorem d_69_80 : decode (bC 69) 80 = .ok (.aload_n 0, 1) := by decide +kernel
theorem d_69_81 : decode (bC 69) 81 = .ok (.getfield 40, 3) := by decide +kernel
theorem d_69_84 : decode (bC 69) 84 = .ok (.iload 7, 2) := by decide +kernel
theorem d_69_86 : decode (bC 69) 86 = .ok (.iaload, 1) := by decide +kernel
theorem d_69_87 : decode (bC 69) 87 = .ok (.if_icmp .le 7, 3) := by decide +kernel
theorem d_69_90 : decode (bC 69) 90 = .ok (.iconst 1, 1) := by decide +kernel
theorem d_69_91 : decode (bC 69) 91 = .ok (.goto 4, 3) := by decide +kernel
theorem d_69_94 : decode (bC 69) 94 = .ok (.iconst 0, 1) := by decide +kernel
theorem d_69_95 : decode (bC 69) 95 = .ok (.istore 8, 2) := by decide +kernel
theorem d_69_97 : decode (bC 69) 97 = .ok (.iload 8, 2) := by decide +kernel
theorem d_69_99 : decode (bC 69) 99 = .ok (.ifCond .eq 39, 3) := by decide +kernel
theorem d_69_102 : decode (bC 69) 102 = .ok (.iload 4, 2) := by decide +kernel
theorem d_69_104 : decode (bC 69) 104 = .ok (.ifCond .lt 14, 3) := by decide +kernel
theorem d_69_107 : decode (bC 69) 107 = .ok (.aload_n 0, 1) := by decide +kernel
theorem d_69_108 : decode (bC 69) 108 = .ok (.iload 4, 2) := by decide +kernel
theorem d_69_110 : decode (bC 69) 110 = .ok (.iload 7, 2) := by decide +kernel
theorem d_69_112 : decode (bC 69) 112 = .ok (.invokevirtual 84, 3) := by decide +kernel
theorem d_69_115 : decode (bC 69) 115 = .ok (.ifCond .eq 23, 3) := by decide +kernel
theorem d_69_118 : decode (bC 69) 118 = .ok (.iload 6, 2) := by decide +kernel
theorem d_69_120 : decode (bC 69) 120 = .ok (.ifCond .lt 14, 3) := by decide +kernel
theorem d_69_123 : decode (bC 69) 123 = .ok (.aload_n 0, 1) := by decide +kernel
theorem d_69_124 : decode (bC 69) 124 = .ok (.iload 7, 2) := by decide +kernel
theorem d_69_126 : decode (bC 69) 126 = .ok (.iload 6, 2) := by decide +kernel
theorem d_69_128 : decode (bC 69) 128 = .ok (.invokevirtual 84, 3) := by decide +kernel
theorem d_69_131 : decode (bC 69) 131 = .ok (.ifCond .eq 7, 3) := by decide +kernel
theorem d_69_134 : decode (bC 69) 134 = .ok (.iload 7, 2) := by decide +kernel
theorem d_69_136 : decode (bC 69) 136 = .ok (.istore 6, 2) := by decide +kernel
theorem d_69_138 : decode (bC 69) 138 = .ok (.iinc 7 1, 3) := by decide +kernel
theorem d_69_141 : decode (bC 69) 141 = .ok (.goto (-96), 3) := by decide +kernel
theorem d_69_144 : decode (bC 69) 144 = .ok (.iload 6, 2) := by decide +kernel
theorem d_69_146 : decode (bC 69) 146 = .ok (.ifCond .lt 53, 3) := by decide +kernel
theorem d_69_149 : decode (bC 69) 149 = .ok (.iconst 1, 1) := by decide +kernel
theorem d_69_150 : decode (bC 69) 150 = .ok (.aload_n 0, 1) := by decide +kernel
theorem d_69_151 : decode (bC 69) 151 = .ok (.getfield 40, 3) := by decide +kernel
theorem d_69_154 : decode (bC 69) 154 = .ok (.iload 6, 2) := by decide +kernel
theorem d_69_156 : decode (bC 69) 156 = .ok (.iaload, 1) := by decide +kernel
theorem d_69_157 : decode (bC 69) 157 = .ok (.iadd, 1) := by decide +kernel
theorem d_69_158 : decode (bC 69) 158 = .ok (.aload_n 0, 1) := by decide +kernel
theorem d_69_159 : decode (bC 69) 159 = .ok (.iload 6, 2) := by decide +kernel
theorem d_69_161 : decode (bC 69) 161 = .ok (.invokevirtual 88, 3) := by decide +kernel
theorem d_69_164 : decode (bC 69) 164 = .ok (.iadd, 1) := by decide +kernel
theorem d_69_165 : decode (bC 69) 165 = .ok (.istore 7, 2) := by decide +kernel
theorem d_69_167 : decode (bC 69) 167 = .ok (.lload_n 2, 1) := by decide +kernel
theorem d_69_168 : decode (bC 69) 168 = .ok (.iload 7, 2) := by decide +kernel
theorem d_69_170 : decode (bC 69) 170 = .ok (.i2l, 1) := by decide +kernel
theorem d_69_171 : decode (bC 69) 171 = .ok (.ladd, 1) := by decide +kernel
theorem d_69_172 : decode (bC 69) 172 = .ok (.iload_n 1, 1) := by decide +kernel
theorem d_69_173 : decode (bC 69) 173 = .ok (.i2l, 1) := by decide +kernel
theorem d_69_174 : decode (bC 69) 174 = .ok (.lcmp, 1) := by decide +kernel
theorem d_69_175 : decode (bC 69) 175 = .ok (.ifCond .gt 17, 3) := by decide +kernel
theorem d_69_178 : decode (bC 69) 178 = .ok (.lload_n 2, 1) := by decide +kernel
theorem d_69_179 : decode (bC 69) 179 = .ok (.iload 7, 2) := by decide +kernel
theorem d_69_181 : decode (bC 69) 181 = .ok (.i2l, 1) := by decide +kernel
theorem d_69_182 : decode (bC 69) 182 = .ok (.ladd, 1) := by decide +kernel
theorem d_69_183 : decode (bC 69) 183 = .ok (.lstore_n 2, 1) := by decide +kernel
theorem d_69_184 : decode (bC 69) 184 = .ok (.aload_n 0, 1) := by decide +kernel
theorem d_69_185 : decode (bC 69) 185 = .ok (.getfield 78, 3) := by decide +kernel
theorem d_69_188 : decode (bC 69) 188 = .ok (.iload 6, 2) := by decide +kernel
theorem d_69_190 : decode (bC 69) 190 = .ok (.iconst 1, 1) := by decide +kernel
theorem d_69_191 : decode (bC 69) 191 = .ok (.bastore, 1) := by decide +kernel
theorem d_69_192 : decode (bC 69) 192 = .ok (.iload 6, 2) := by decide +kernel
theorem d_69_194 : decode (bC 69) 194 = .ok (.istore 4, 2) := by decide +kernel
theorem d_69_196 : decode (bC 69) 196 = .ok (.goto 4, 3) := by decide +kernel
theorem d_69_199 : decode (bC 69) 199 = .ok (.return_, 1) := by decide +kernel
theorem d_69_200 : decode (bC 69) 200 = .ok (.iinc 5 1, 3) := by decide +kernel
theorem d_69_203 : decode (bC 69) 203 = .ok (.goto (-171), 3) := by decide +kernel
theorem d_69_206 : decode (bC 69) 206 = .ok (.return_, 1) := by decide +kernel
theorem d_70_0 : decode (bC 70) 0 = .ok (.aload_n 0, 1) := by decide +kernel
theorem d_70_1 : decode (bC 70) 1 = .ok (.getfield 37, 3) := by decide +kernel
theorem d_70_4 : decode (bC 70) 4 = .ok (.iload_n 1, 1) := by decide +kernel
theorem d_70_5 : decode (bC 70) 5 = .ok (.iaload, 1) := by decide +kernel
theorem d_70_6 : decode (bC 70) 6 = .ok (.aload_n 0, 1) := by decide +kernel
theorem d_70_7 : decode (bC 70) 7 = .ok (.getfield 40, 3) := by decide +kernel
theorem d_70_10 : decode (bC 70) 10 = .ok (.iload_n 1, 1) := by decide +kernel
theorem d_70_11 : decode (bC 70) 11 = .ok (.iaload, 1) := by decide +kernel
theorem d_70_12 : decode (bC 70) 12 = .ok (.isub, 1) := by decide +kernel
theorem d_70_13 : decode (bC 70) 13 = .ok (.iconst 1, 1) := by decide +kernel
theorem d_70_14 : decode (bC 70) 14 = .ok (.aload_n 0, 1) := by decide +kernel
theorem d_70_15 : decode (bC 70) 15 = .ok (.getfield 40, 3) := by decide +kernel
theorem d_70_18 : decode (bC 70) 18 = .ok (.iload_n 2, 1) := by decide +kernel
theorem d_70_19 : decode (bC 70) 19 = .ok (.iaload, 1) := by decide +kernel
theorem d_70_20 : decode (bC 70) 20 = .ok (.iadd, 1) := by decide +kernel
theorem d_70_21 : decode (bC 70) 21 = .ok (.aload_n 0, 1) := by decide +kernel
theorem d_70_22 : decode (bC 70) 22 = .ok (.iload_n 2, 1) := by decide +kernel
theorem d_70_23 : decode (bC 70) 23 = .ok (.invokevirtual 88, 3) := by decide +kernel
theorem d_70_26 : decode (bC 70) 26 = .ok (.iadd, 1) := by decide +kernel
theorem d_70_27 : decode (bC 70) 27 = .ok (.imul, 1) := by decide +kernel
theorem d_70_28 : decode (bC 70) 28 = .ok (.istore_n 3, 1) := by decide +kernel
theorem d_70_29 : decode (bC 70) 29 = .ok (.aload_n 0, 1) := by decide +kernel
theorem d_70_30 : decode (bC 70) 30 = .ok (.getfield 37, 3) := by decide +kernel
theorem d_70_33 : decode (bC 70) 33 = .ok (.iload_n 2, 1) := by decide +kernel
theorem d_70_34 : decode (bC 70) 34 = .ok (.iaload, 1) := by decide +kernel
theorem d_70_35 : decode (bC 70) 35 = .ok (.aload_n 0, 1) := by decide +kernel
theorem d_70_36 : decode (bC 70) 36 = .ok (.getfield 40, 3) := by decide +kernel
theorem d_70_39 : decode (bC 70) 39 = .ok (.iload_n 2, 1) := by decide +kernel
theorem d_70_40 : decode (bC 70) 40 = .ok (.iaload, 1) := by decide +kernel
theorem d_70_41 : decode (bC 70) 41 = .ok (.isub, 1) := by decide +kernel
theorem d_70_42 : decode (bC 70) 42 = .ok (.iconst 1, 1) := by decide +kernel
theorem d_70_43 : decode (bC 70) 43 = .ok (.aload_n 0, 1) := by decide +kernel
theorem d_70_44 : decode (bC 70) 44 = .ok (.getfield 40, 3) := by decide +kernel
theorem d_70_47 : decode (bC 70) 47 = .ok (.iload_n 1, 1) := by decide +kernel
theorem d_70_48 : decode (bC 70) 48 = .ok (.iaload, 1) := by decide +kernel
theorem d_70_49 : decode (bC 70) 49 = .ok (.iadd, 1) := by decide +kernel
theorem d_70_50 : decode (bC 70) 50 = .ok (.aload_n 0, 1) := by decide +kernel
theorem d_70_51 : decode (bC 70) 51 = .ok (.iload_n 1, 1) := by decide +kernel
theorem d_70_52 : decode (bC 70) 52 = .ok (.invokevirtual 88, 3) := by decide +kernel
theorem d_70_55 : decode (bC 70) 55 = .ok (.iadd, 1) := by decide +kernel
theorem d_70_56 : decode (bC 70) 56 = .ok (.imul, 1) := by decide +kernel
theorem d_70_57 : decode (bC 70) 57 = .ok (.istore 4, 2) := by decide +kernel
theorem d_70_59 : decode (bC 70) 59 = .ok (.iload_n 3, 1) := by decide +kernel
theorem d_70_60 : decode (bC 70) 60 = .ok (.iload 4, 2) := by decide +kernel
theorem d_70_62 : decode (bC 70) 62 = .ok (.if_icmp .gt 14, 3) := by decide +kernel
theorem d_70_65 : decode (bC 70) 65 = .ok (.iload_n 3, 1) := by decide +kernel
theorem d_70_66 : decode (bC 70) 66 = .ok (.iload 4, 2) := by decide +kernel
theorem d_70_68 : decode (bC 70) 68 = .ok (.if_icmp .ne 12, 3) := by decide +kernel
theorem d_70_71 : decode (bC 70) 71 = .ok (.iload_n 1, 1) := by decide +kernel
theorem d_70_72 : decode (bC 70) 72 = .ok (.iload_n 2, 1) := by decide +kernel
theorem d_70_73 : decode (bC 70) 73 = .ok (.if_icmp .ge 7, 3) := by decide +kernel
theorem d_70_76 : decode (bC 70) 76 = .ok (.iconst 1, 1) := by decide +kernel
theorem d_70_77 : decode (bC 70) 77 = .ok (.goto 4, 3) := by decide +kernel
theorem d_70_80 : decode (bC 70) 80 = .ok (.iconst 0, 1) := by decide +kernel
theorem d_70_81 : decode (bC 70) 81 = .ok (.ireturn, 1) := by decide +kernel
theorem d_71_0 : decode (bC 71) 0 = .ok (.iconst 0, 1) := by decide +kernel
theorem d_71_1 : decode (bC 71) 1 = .ok (.istore_n 2, 1) := by decide +kernel
theorem d_71_2 : decode (bC 71) 2 = .ok (.iload_n 1, 1) := by decide +kernel
theorem d_71_3 : decode (bC 71) 3 = .ok (.ifCond .ge 5, 3) := by decide +kernel
theorem d_71_6 : decode (bC 71) 6 = .ok (.iconst 0, 1) := by decide +kernel
theorem d_71_7 : decode (bC 71) 7 = .ok (.ireturn, 1) := by decide +kernel
theorem d_71_8 : decode (bC 71) 8 = .ok (.aload_n 0, 1) := by decide +kernel
theorem d_71_9 : decode (bC 71) 9 = .ok (.iload_n 1, 1) := by decide +kernel
theorem d_71_10 : decode (bC 71) 10 = .ok (.invokevirtual 92, 3) := by decide +kernel
theorem d_71_13 : decode (bC 71) 13 = .ok (.iconst 0, 1) := by decide +kernel
theorem d_71_14 : decode (bC 71) 14 = .ok (.istore_n 3, 1) := by decide +kernel
theorem d_71_15 : decode (bC 71) 15 = .ok (.iload_n 3, 1) := by decide +kernel
theorem d_71_16 : decode (bC 71) 16 = .ok (.bipush 12, 2) := by decide +kernel
theorem d_71_18 : decode (bC 71) 18 = .ok (.if_icmp .ge 28, 3) := by decide +kernel
theorem d_71_21 : decode (bC 71) 21 = .ok (.aload_n 0, 1) := by decide +kernel
theorem d_71_22 : decode (bC 71) 22 = .ok (.getfield 78, 3) := by decide +kernel
theorem d_71_25 : decode (bC 71) 25 = .ok (.iload_n 3, 1) := by decide +kernel
theorem d_71_26 : decode (bC 71) 26 = .ok (.baload, 1) := by decide +kernel
theorem d_71_27 : decode (bC 71) 27 = .ok (.ifCond .eq 11, 3) := by decide +kernel
theorem d_71_30 : decode (bC 71) 30 = .ok (.iload_n 2, 1) := by decide +kernel
theorem d_71_31 : decode (bC 71) 31 = .ok (.iconst 1, 1) := by decide +kernel
theorem d_71_32 : decode (bC 71) 32 = .ok (.iload_n 3, 1) := by decide +kernel
theorem d_71_33 : decode (bC 71) 33 = .ok (.ishl, 1) := by decide +kernel
theorem d_71_34 : decode (bC 71) 34 = .ok (.ior, 1) := by decide +kernel
theorem d_71_35 : decode (bC 71) 35 = .ok (.goto 4, 3) := by decide +kernel
theorem d_71_38 : decode (bC 71) 38 = .ok (.iload_n 2, 1) := by decide +kernel
theorem d_71_39 : decode (bC 71) 39 = .ok (.istore_n 2, 1) := by decide +kernel
theorem d_71_40 : decode (bC 71) 40 = .ok (.iinc 3 1, 3) := by decide +kernel
theorem d_71_43 : decode (bC 71) 43 = .ok (.goto (-28), 3) := by decide +kernel
theorem d_71_46 : decode (bC 71) 46 = .ok (.iload_n 2, 1) := by decide +kernel
theorem d_71_47 : decode (bC 71) 47 = .ok (.ireturn, 1) := by decide +kernel
