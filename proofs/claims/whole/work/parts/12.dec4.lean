theorem d_72_0 : decode (bC 72) 0 = .ok (.iload_n 1, 1) := by decide +kernel
theorem d_72_1 : decode (bC 72) 1 = .ok (.ifCond .lt 33, 3) := by decide +kernel
theorem d_72_4 : decode (bC 72) 4 = .ok (.aload_n 0, 1) := by decide +kernel
theorem d_72_5 : decode (bC 72) 5 = .ok (.getfield 96, 3) := by decide +kernel
theorem d_72_8 : decode (bC 72) 8 = .ok (.ifCond .ne 26, 3) := by decide +kernel
theorem d_72_11 : decode (bC 72) 11 = .ok (.aload_n 0, 1) := by decide +kernel
theorem d_72_12 : decode (bC 72) 12 = .ok (.getfield 60, 3) := by decide +kernel
theorem d_72_15 : decode (bC 72) 15 = .ok (.iload_n 1, 1) := by decide +kernel
theorem d_72_16 : decode (bC 72) 16 = .ok (.baload, 1) := by decide +kernel
theorem d_72_17 : decode (bC 72) 17 = .ok (.ifCond .ne 17, 3) := by decide +kernel
theorem d_72_20 : decode (bC 72) 20 = .ok (.aload_n 0, 1) := by decide +kernel
theorem d_72_21 : decode (bC 72) 21 = .ok (.getfield 50, 3) := by decide +kernel
theorem d_72_24 : decode (bC 72) 24 = .ok (.aload_n 0, 1) := by decide +kernel
theorem d_72_25 : decode (bC 72) 25 = .ok (.getfield 22, 3) := by decide +kernel
theorem d_72_28 : decode (bC 72) 28 = .ok (.iload_n 1, 1) := by decide +kernel
theorem d_72_29 : decode (bC 72) 29 = .ok (.iaload, 1) := by decide +kernel
theorem d_72_30 : decode (bC 72) 30 = .ok (.baload, 1) := by decide +kernel
theorem d_72_31 : decode (bC 72) 31 = .ok (.ifCond .ne 4, 3) := by decide +kernel
theorem d_72_34 : decode (bC 72) 34 = .ok (.return_, 1) := by decide +kernel
theorem d_72_35 : decode (bC 72) 35 = .ok (.aload_n 0, 1) := by decide +kernel
theorem d_72_36 : decode (bC 72) 36 = .ok (.getfield 34, 3) := by decide +kernel
theorem d_72_39 : decode (bC 72) 39 = .ok (.aload_n 0, 1) := by decide +kernel
theorem d_72_40 : decode (bC 72) 40 = .ok (.getfield 22, 3) := by decide +kernel
theorem d_72_43 : decode (bC 72) 43 = .ok (.iload_n 1, 1) := by decide +kernel
theorem d_72_44 : decode (bC 72) 44 = .ok (.iaload, 1) := by decide +kernel
theorem d_72_45 : decode (bC 72) 45 = .ok (.iaload, 1) := by decide +kernel
theorem d_72_46 : decode (bC 72) 46 = .ok (.iconst 1, 1) := by decide +kernel
theorem d_72_47 : decode (bC 72) 47 = .ok (.if_icmp .ne 7, 3) := by decide +kernel
theorem d_72_50 : decode (bC 72) 50 = .ok (.iconst 2, 1) := by decide +kernel
theorem d_72_51 : decode (bC 72) 51 = .ok (.goto 4, 3) := by decide +kernel
theorem d_72_54 : decode (bC 72) 54 = .ok (.iconst 3, 1) := by decide +kernel
theorem d_72_55 : decode (bC 72) 55 = .ok (.istore_n 2, 1) := by decide +kernel
theorem d_72_56 : decode (bC 72) 56 = .ok (.aload_n 0, 1) := by decide +kernel
theorem d_72_57 : decode (bC 72) 57 = .ok (.getfield 69, 3) := by decide +kernel
theorem d_72_60 : decode (bC 72) 60 = .ok (.iload_n 2, 1) := by decide +kernel
theorem d_72_61 : decode (bC 72) 61 = .ok (.iaload, 1) := by decide +kernel
theorem d_72_62 : decode (bC 72) 62 = .ok (.ifCond .lt 21, 3) := by decide +kernel
theorem d_72_65 : decode (bC 72) 65 = .ok (.aload_n 0, 1) := by decide +kernel
theorem d_72_66 : decode (bC 72) 66 = .ok (.getfield 72, 3) := by decide +kernel
theorem d_72_69 : decode (bC 72) 69 = .ok (.iload_n 2, 1) := by decide +kernel
theorem d_72_70 : decode (bC 72) 70 = .ok (.iaload, 1) := by decide +kernel
theorem d_72_71 : decode (bC 72) 71 = .ok (.aload_n 0, 1) := by decide +kernel
theorem d_72_72 : decode (bC 72) 72 = .ok (.getfield 13, 3) := by decide +kernel
theorem d_72_75 : decode (bC 72) 75 = .ok (.iload_n 1, 1) := by decide +kernel
theorem d_72_76 : decode (bC 72) 76 = .ok (.iaload, 1) := by decide +kernel
theorem d_72_77 : decode (bC 72) 77 = .ok (.iadd, 1) := by decide +kernel
theorem d_72_78 : decode (bC 72) 78 = .ok (.bipush 16, 2) := by decide +kernel
theorem d_72_80 : decode (bC 72) 80 = .ok (.if_icmp .le 78, 3) := by decide +kernel
theorem d_72_83 : decode (bC 72) 83 = .ok (.iconst (-1), 1) := by decide +kernel
theorem d_72_84 : decode (bC 72) 84 = .ok (.istore_n 3, 1) := by decide +kernel
theorem d_72_85 : decode (bC 72) 85 = .ok (.bipush 11, 2) := by decide +kernel
theorem d_72_87 : decode (bC 72) 87 = .ok (.istore 4, 2) := by decide +kernel
theorem d_72_89 : decode (bC 72) 89 = .ok (.iload 4, 2) := by decide +kernel
theorem d_72_91 : decode (bC 72) 91 = .ok (.ifCond .lt 36, 3) := by decide +kernel
theorem d_72_94 : decode (bC 72) 94 = .ok (.aload_n 0, 1) := by decide +kernel
theorem d_72_95 : decode (bC 72) 95 = .ok (.getfield 34, 3) := by decide +kernel
theorem d_72_98 : decode (bC 72) 98 = .ok (.iload 4, 2) := by decide +kernel
theorem d_72_100 : decode (bC 72) 100 = .ok (.iaload, 1) := by decide +kernel
theorem d_72_101 : decode (bC 72) 101 = .ok (.ifCond .ne 18, 3) := by decide +kernel
theorem d_72_104 : decode (bC 72) 104 = .ok (.aload_n 0, 1) := by decide +kernel
theorem d_72_105 : decode (bC 72) 105 = .ok (.getfield 54, 3) := by decide +kernel
theorem d_72_108 : decode (bC 72) 108 = .ok (.iload 4, 2) := by decide +kernel
theorem d_72_110 : decode (bC 72) 110 = .ok (.iaload, 1) := by decide +kernel
theorem d_72_111 : decode (bC 72) 111 = .ok (.ifCond .ne 8, 3) := by decide +kernel
theorem d_72_114 : decode (bC 72) 114 = .ok (.iload 4, 2) := by decide +kernel
theorem d_72_116 : decode (bC 72) 116 = .ok (.goto 4, 3) := by decide +kernel
theorem d_72_119 : decode (bC 72) 119 = .ok (.iload_n 3, 1) := by decide +kernel
theorem d_72_120 : decode (bC 72) 120 = .ok (.istore_n 3, 1) := by decide +kernel
theorem d_72_121 : decode (bC 72) 121 = .ok (.iinc 4 (-1), 3) := by decide +kernel
theorem d_72_124 : decode (bC 72) 124 = .ok (.goto (-35), 3) := by decide +kernel
theorem d_72_127 : decode (bC 72) 127 = .ok (.iload_n 3, 1) := by decide +kernel
theorem d_72_128 : decode (bC 72) 128 = .ok (.ifCond .ge 9, 3) := by decide +kernel
theorem d_72_131 : decode (bC 72) 131 = .ok (.aload_n 0, 1) := by decide +kernel
theorem d_72_132 : decode (bC 72) 132 = .ok (.iconst 1, 1) := by decide +kernel
theorem d_72_133 : decode (bC 72) 133 = .ok (.putfield 96, 3) := by decide +kernel
theorem d_72_136 : decode (bC 72) 136 = .ok (.return_, 1) := by decide +kernel
theorem d_72_137 : decode (bC 72) 137 = .ok (.aload_n 0, 1) := by decide +kernel
theorem d_72_138 : decode (bC 72) 138 = .ok (.getfield 54, 3) := by decide +kernel
theorem d_72_141 : decode (bC 72) 141 = .ok (.iload_n 3, 1) := by decide +kernel
theorem d_72_142 : decode (bC 72) 142 = .ok (.iload_n 2, 1) := by decide +kernel
theorem d_72_143 : decode (bC 72) 143 = .ok (.iastore, 1) := by decide +kernel
theorem d_72_144 : decode (bC 72) 144 = .ok (.aload_n 0, 1) := by decide +kernel
theorem d_72_145 : decode (bC 72) 145 = .ok (.getfield 69, 3) := by decide +kernel
theorem d_72_148 : decode (bC 72) 148 = .ok (.iload_n 2, 1) := by decide +kernel
theorem d_72_149 : decode (bC 72) 149 = .ok (.iload_n 3, 1) := by decide +kernel
theorem d_72_150 : decode (bC 72) 150 = .ok (.iastore, 1) := by decide +kernel
theorem d_72_151 : decode (bC 72) 151 = .ok (.aload_n 0, 1) := by decide +kernel
theorem d_72_152 : decode (bC 72) 152 = .ok (.getfield 72, 3) := by decide +kernel
theorem d_72_155 : decode (bC 72) 155 = .ok (.iload_n 2, 1) := by decide +kernel
theorem d_72_156 : decode (bC 72) 156 = .ok (.iconst 0, 1) := by decide +kernel
theorem d_72_157 : decode (bC 72) 157 = .ok (.iastore, 1) := by decide +kernel
theorem d_72_158 : decode (bC 72) 158 = .ok (.aload_n 0, 1) := by decide +kernel
theorem d_72_159 : decode (bC 72) 159 = .ok (.getfield 60, 3) := by decide +kernel
theorem d_72_162 : decode (bC 72) 162 = .ok (.iload_n 1, 1) := by decide +kernel
theorem d_72_163 : decode (bC 72) 163 = .ok (.iconst 1, 1) := by decide +kernel
theorem d_72_164 : decode (bC 72) 164 = .ok (.bastore, 1) := by decide +kernel
theorem d_72_165 : decode (bC 72) 165 = .ok (.aload_n 0, 1) := by decide +kernel
theorem d_72_166 : decode (bC 72) 166 = .ok (.getfield 57, 3) := by decide +kernel
theorem d_72_169 : decode (bC 72) 169 = .ok (.aload_n 0, 1) := by decide +kernel
theorem d_72_170 : decode (bC 72) 170 = .ok (.getfield 100, 3) := by decide +kernel
theorem d_72_173 : decode (bC 72) 173 = .ok (.iload_n 1, 1) := by decide +kernel
theorem d_72_174 : decode (bC 72) 174 = .ok (.iastore, 1) := by decide +kernel
theorem d_72_175 : decode (bC 72) 175 = .ok (.aload_n 0, 1) := by decide +kernel
theorem d_72_176 : decode (bC 72) 176 = .ok (.dup, 1) := by decide +kernel
theorem d_72_177 : decode (bC 72) 177 = .ok (.getfield 100, 3) := by decide +kernel
theorem d_72_180 : decode (bC 72) 180 = .ok (.iconst 1, 1) := by decide +kernel
theorem d_72_181 : decode (bC 72) 181 = .ok (.iadd, 1) := by decide +kernel
theorem d_72_182 : decode (bC 72) 182 = .ok (.putfield 100, 3) := by decide +kernel
theorem d_72_185 : decode (bC 72) 185 = .ok (.aload_n 0, 1) := by decide +kernel
theorem d_72_186 : decode (bC 72) 186 = .ok (.getfield 63, 3) := by decide +kernel
theorem d_72_189 : decode (bC 72) 189 = .ok (.iload_n 1, 1) := by decide +kernel
theorem d_72_190 : decode (bC 72) 190 = .ok (.aload_n 0, 1) := by decide +kernel
theorem d_72_191 : decode (bC 72) 191 = .ok (.getfield 69, 3) := by decide +kernel
theorem d_72_194 : decode (bC 72) 194 = .ok (.iload_n 2, 1) := by decide +kernel
theorem d_72_195 : decode (bC 72) 195 = .ok (.iaload, 1) := by decide +kernel
theorem d_72_196 : decode (bC 72) 196 = .ok (.iastore, 1) := by decide +kernel
theorem d_72_197 : decode (bC 72) 197 = .ok (.aload_n 0, 1) := by decide +kernel
theorem d_72_198 : decode (bC 72) 198 = .ok (.getfield 66, 3) := by decide +kernel
theorem d_72_201 : decode (bC 72) 201 = .ok (.iload_n 1, 1) := by decide +kernel
theorem d_72_202 : decode (bC 72) 202 = .ok (.aload_n 0, 1) := by decide +kernel
theorem d_72_203 : decode (bC 72) 203 = .ok (.getfield 72, 3) := by decide +kernel
theorem d_72_206 : decode (bC 72) 206 = .ok (.iload_n 2, 1) := by decide +kernel
theorem d_72_207 : decode (bC 72) 207 = .ok (.iaload, 1) := by decide +kernel
theorem d_72_208 : decode (bC 72) 208 = .ok (.iastore, 1) := by decide +kernel
theorem d_72_209 : decode (bC 72) 209 = .ok (.aload_n 0, 1) := by decide +kernel
theorem d_72_210 : decode (bC 72) 210 = .ok (.getfield 72, 3) := by decide +kernel
theorem d_72_213 : decode (bC 72) 213 = .ok (.iload_n 2, 1) := by decide +kernel
theorem d_72_214 : decode (bC 72) 214 = .ok (.aload_n 0, 1) := by decide +kernel
theorem d_72_215 : decode (bC 72) 215 = .ok (.getfield 72, 3) := by decide +kernel
theorem d_72_218 : decode (bC 72) 218 = .ok (.iload_n 2, 1) := by decide +kernel
theorem d_72_219 : decode (bC 72) 219 = .ok (.iaload, 1) := by decide +kernel
theorem d_72_220 : decode (bC 72) 220 = .ok (.aload_n 0, 1) := by decide +kernel
theorem d_72_221 : decode (bC 72) 221 = .ok (.getfield 13, 3) := by decide +kernel
theorem d_72_224 : decode (bC 72) 224 = .ok (.iload_n 1, 1) := by decide +kernel
theorem d_72_225 : decode (bC 72) 225 = .ok (.iaload, 1) := by decide +kernel
theorem d_72_226 : decode (bC 72) 226 = .ok (.iadd, 1) := by decide +kernel
theorem d_72_227 : decode (bC 72) 227 = .ok (.iastore, 1) := by decide +kernel
theorem d_72_228 : decode (bC 72) 228 = .ok (.return_, 1) := by decide +kernel
theorem d_73_0 : decode (bC 73) 0 = .ok (.iconst 3, 1) := by decide +kernel
theorem d_73_1 : decode (bC 73) 1 = .ok (.iload_n 1, 1) := by decide +kernel
theorem d_73_2 : decode (bC 73) 2 = .ok (.imul, 1) := by decide +kernel
theorem d_73_3 : decode (bC 73) 3 = .ok (.istore_n 2, 1) := by decide +kernel
theorem d_73_4 : decode (bC 73) 4 = .ok (.iload_n 2, 1) := by decide +kernel
theorem d_73_5 : decode (bC 73) 5 = .ok (.iconst 3, 1) := by decide +kernel
theorem d_73_6 : decode (bC 73) 6 = .ok (.iload_n 1, 1) := by decide +kernel
theorem d_73_7 : decode (bC 73) 7 = .ok (.imul, 1) := by decide +kernel
theorem d_73_8 : decode (bC 73) 8 = .ok (.aload_n 0, 1) := by decide +kernel
theorem d_73_9 : decode (bC 73) 9 = .ok (.getfield 16, 3) := by decide +kernel
theorem d_73_12 : decode (bC 73) 12 = .ok (.iload_n 1, 1) := by decide +kernel
theorem d_73_13 : decode (bC 73) 13 = .ok (.iaload, 1) := by decide +kernel
theorem d_73_14 : decode (bC 73) 14 = .ok (.iadd, 1) := by decide +kernel
theorem d_73_15 : decode (bC 73) 15 = .ok (.if_icmp .ge 19, 3) := by decide +kernel
theorem d_73_18 : decode (bC 73) 18 = .ok (.aload_n 0, 1) := by decide +kernel
theorem d_73_19 : decode (bC 73) 19 = .ok (.aload_n 0, 1) := by decide +kernel
theorem d_73_20 : decode (bC 73) 20 = .ok (.getfield 19, 3) := by decide +kernel
theorem d_73_23 : decode (bC 73) 23 = .ok (.iload_n 2, 1) := by decide +kernel
theorem d_73_24 : decode (bC 73) 24 = .ok (.iaload, 1) := by decide +kernel
theorem d_73_25 : decode (bC 73) 25 = .ok (.invokevirtual 103, 3) := by decide +kernel
theorem d_73_28 : decode (bC 73) 28 = .ok (.iinc 2 1, 3) := by decide +kernel
theorem d_73_31 : decode (bC 73) 31 = .ok (.goto (-27), 3) := by decide +kernel
theorem d_73_34 : decode (bC 73) 34 = .ok (.return_, 1) := by decide +kernel
theorem d_74_0 : decode (bC 74) 0 = .ok (.aload_n 0, 1) := by decide +kernel
theorem d_74_1 : decode (bC 74) 1 = .ok (.iconst 0, 1) := by decide +kernel
theorem d_74_2 : decode (bC 74) 2 = .ok (.putfield 100, 3) := by decide +kernel
theorem d_74_5 : decode (bC 74) 5 = .ok (.aload_n 0, 1) := by decide +kernel
theorem d_74_6 : decode (bC 74) 6 = .ok (.iconst 0, 1) := by decide +kernel
theorem d_74_7 : decode (bC 74) 7 = .ok (.putfield 96, 3) := by decide +kernel
theorem d_74_10 : decode (bC 74) 10 = .ok (.aload_n 0, 1) := by decide +kernel
theorem d_74_11 : decode (bC 74) 11 = .ok (.getfield 69, 3) := by decide +kernel
theorem d_74_14 : decode (bC 74) 14 = .ok (.iconst 2, 1) := by decide +kernel
theorem d_74_15 : decode (bC 74) 15 = .ok (.iconst (-1), 1) := by decide +kernel
theorem d_74_16 : decode (bC 74) 16 = .ok (.iastore, 1) := by decide +kernel
theorem d_74_17 : decode (bC 74) 17 = .ok (.aload_n 0, 1) := by decide +kernel
theorem d_74_18 : decode (bC 74) 18 = .ok (.getfield 69, 3) := by decide +kernel
theorem d_74_21 : decode (bC 74) 21 = .ok (.iconst 3, 1) := by decide +kernel
theorem d_74_22 : decode (bC 74) 22 = .ok (.iconst (-1), 1) := by decide +kernel
theorem d_74_23 : decode (bC 74) 23 = .ok (.iastore, 1) := by decide +kernel
theorem d_74_24 : decode (bC 74) 24 = .ok (.iconst 0, 1) := by decide +kernel
theorem d_74_25 : decode (bC 74) 25 = .ok (.istore_n 1, 1) := by decide +kernel
theorem d_74_26 : decode (bC 74) 26 = .ok (.iload_n 1, 1) := by decide +kernel
theorem d_74_27 : decode (bC 74) 27 = .ok (.bipush 97, 2) := by decide +kernel
theorem d_74_29 : decode (bC 74) 29 = .ok (.if_icmp .ge 16, 3) := by decide +kernel
theorem d_74_32 : decode (bC 74) 32 = .ok (.aload_n 0, 1) := by decide +kernel
theorem d_74_33 : decode (bC 74) 33 = .ok (.getfield 60, 3) := by decide +kernel
theorem d_74_36 : decode (bC 74) 36 = .ok (.iload_n 1, 1) := by decide +kernel
theorem d_74_37 : decode (bC 74) 37 = .ok (.iconst 0, 1) := by decide +kernel
theorem d_74_38 : decode (bC 74) 38 = .ok (.bastore, 1) := by decide +kernel
theorem d_74_39 : decode (bC 74) 39 = .ok (.iinc 1 1, 3) := by decide +kernel
theorem d_74_42 : decode (bC 74) 42 = .ok (.goto (-16), 3) := by decide +kernel
theorem d_74_45 : decode (bC 74) 45 = .ok (.iconst 0, 1) := by decide +kernel
theorem d_74_46 : decode (bC 74) 46 = .ok (.istore_n 1, 1) := by decide +kernel
theorem d_74_47 : decode (bC 74) 47 = .ok (.iload_n 1, 1) := by decide +kernel
theorem d_74_48 : decode (bC 74) 48 = .ok (.bipush 12, 2) := by decide +kernel
theorem d_74_50 : decode (bC 74) 50 = .ok (.if_icmp .ge 16, 3) := by decide +kernel
theorem d_74_53 : decode (bC 74) 53 = .ok (.aload_n 0, 1) := by decide +kernel
theorem d_74_54 : decode (bC 74) 54 = .ok (.getfield 54, 3) := by decide +kernel
theorem d_74_57 : decode (bC 74) 57 = .ok (.iload_n 1, 1) := by decide +kernel
theorem d_74_58 : decode (bC 74) 58 = .ok (.iconst 0, 1) := by decide +kernel
theorem d_74_59 : decode (bC 74) 59 = .ok (.iastore, 1) := by decide +kernel
theorem d_74_60 : decode (bC 74) 60 = .ok (.iinc 1 1, 3) := by decide +kernel
theorem d_74_63 : decode (bC 74) 63 = .ok (.goto (-16), 3) := by decide +kernel
theorem d_74_66 : decode (bC 74) 66 = .ok (.iconst 0, 1) := by decide +kernel
theorem d_74_67 : decode (bC 74) 67 = .ok (.istore_n 1, 1) := by decide +kernel
theorem d_74_68 : decode (bC 74) 68 = .ok (.iload_n 1, 1) := by decide +kernel
theorem d_74_69 : decode (bC 74) 69 = .ok (.bipush 6, 2) := by decide +kernel
theorem d_74_71 : decode (bC 74) 71 = .ok (.if_icmp .ge 19, 3) := by decide +kernel
theorem d_74_74 : decode (bC 74) 74 = .ok (.aload_n 0, 1) := by decide +kernel
theorem d_74_75 : decode (bC 74) 75 = .ok (.aload_n 0, 1) := by decide +kernel
theorem d_74_76 : decode (bC 74) 76 = .ok (.getfield 31, 3) := by decide +kernel
theorem d_74_79 : decode (bC 74) 79 = .ok (.iload_n 1, 1) := by decide +kernel
theorem d_74_80 : decode (bC 74) 80 = .ok (.iaload, 1) := by decide +kernel
theorem d_74_81 : decode (bC 74) 81 = .ok (.invokevirtual 103, 3) := by decide +kernel
theorem d_74_84 : decode (bC 74) 84 = .ok (.iinc 1 1, 3) := by decide +kernel
theorem d_74_87 : decode (bC 74) 87 = .ok (.goto (-19), 3) := by decide +kernel
theorem d_74_90 : decode (bC 74) 90 = .ok (.iconst 0, 1) := by decide +kernel
theorem d_74_91 : decode (bC 74) 91 = .ok (.istore_n 1, 1) := by decide +kernel
theorem d_74_92 : decode (bC 74) 92 = .ok (.iload_n 1, 1) := by decide +kernel
theorem d_74_93 : decode (bC 74) 93 = .ok (.sipush 192, 3) := by decide +kernel
theorem d_74_96 : decode (bC 74) 96 = .ok (.if_icmp .ge 40, 3) := by decide +kernel
theorem d_74_99 : decode (bC 74) 99 = .ok (.aload_n 0, 1) := by decide +kernel
theorem d_74_100 : decode (bC 74) 100 = .ok (.getfield 28, 3) := by decide +kernel
theorem d_74_103 : decode (bC 74) 103 = .ok (.iload_n 1, 1) := by decide +kernel
theorem d_74_104 : decode (bC 74) 104 = .ok (.iaload, 1) := by decide +kernel
theorem d_74_105 : decode (bC 74) 105 = .ok (.ifCond .lt 25, 3) := by decide +kernel
theorem d_74_108 : decode (bC 74) 108 = .ok (.aload_n 0, 1) := by decide +kernel
theorem d_74_109 : decode (bC 74) 109 = .ok (.getfield 50, 3) := by decide +kernel
theorem d_74_112 : decode (bC 74) 112 = .ok (.iload_n 1, 1) := by decide +kernel
theorem d_74_113 : decode (bC 74) 113 = .ok (.bipush 16, 2) := by decide +kernel
theorem d_74_115 : decode (bC 74) 115 = .ok (.idiv, 1) := by decide +kernel
theorem d_74_116 : decode (bC 74) 116 = .ok (.baload, 1) := by decide +kernel
theorem d_74_117 : decode (bC 74) 117 = .ok (.ifCond .ne 13, 3) := by decide +kernel
theorem d_74_120 : decode (bC 74) 120 = .ok (.aload_n 0, 1) := by decide +kernel
theorem d_74_121 : decode (bC 74) 121 = .ok (.aload_n 0, 1) := by decide +kernel
theorem d_74_122 : decode (bC 74) 122 = .ok (.getfield 28, 3) := by decide +kernel
theorem d_74_125 : decode (bC 74) 125 = .ok (.iload_n 1, 1) := by decide +kernel
theorem d_74_126 : decode (bC 74) 126 = .ok (.iaload, 1) := by decide +kernel
theorem d_74_127 : decode (bC 74) 127 = .ok (.invokevirtual 106, 3) := by decide +kernel
theorem d_74_130 : decode (bC 74) 130 = .ok (.iinc 1 1, 3) := by decide +kernel
theorem d_74_133 : decode (bC 74) 133 = .ok (.goto (-41), 3) := by decide +kernel
theorem d_74_136 : decode (bC 74) 136 = .ok (.iconst 0, 1) := by decide +kernel
theorem d_74_137 : decode (bC 74) 137 = .ok (.istore_n 1, 1) := by decide +kernel
theorem d_74_138 : decode (bC 74) 138 = .ok (.iload_n 1, 1) := by decide +kernel
theorem d_74_139 : decode (bC 74) 139 = .ok (.aload_n 0, 1) := by decide +kernel
theorem d_74_140 : decode (bC 74) 140 = .ok (.getfield 100, 3) := by decide +kernel
theorem d_74_143 : decode (bC 74) 143 = .ok (.if_icmp .ge 19, 3) := by decide +kernel
theorem d_74_146 : decode (bC 74) 146 = .ok (.aload_n 0, 1) := by decide +kernel
theorem d_74_147 : decode (bC 74) 147 = .ok (.aload_n 0, 1) := by decide +kernel
theorem d_74_148 : decode (bC 74) 148 = .ok (.getfield 57, 3) := by decide +kernel
theorem d_74_151 : decode (bC 74) 151 = .ok (.iload_n 1, 1) := by decide +kernel
theorem d_74_152 : decode (bC 74) 152 = .ok (.iaload, 1) := by decide +kernel
theorem d_74_153 : decode (bC 74) 153 = .ok (.invokevirtual 106, 3) := by decide +kernel
theorem d_74_156 : decode (bC 74) 156 = .ok (.iinc 1 1, 3) := by decide +kernel
theorem d_74_159 : decode (bC 74) 159 = .ok (.goto (-21), 3) := by decide +kernel
theorem d_74_162 : decode (bC 74) 162 = .ok (.return_, 1) := by decide +kernel
theorem d_75_0 : decode (bC 75) 0 = .ok (.aload_n 0, 1) := by decide +kernel
theorem d_75_1 : decode (bC 75) 1 = .ok (.iload_n 1, 1) := by decide +kernel
theorem d_75_2 : decode (bC 75) 2 = .ok (.invokevirtual 92, 3) := by decide +kernel
theorem d_75_5 : decode (bC 75) 5 = .ok (.iconst 0, 1) := by decide +kernel
theorem d_75_6 : decode (bC 75) 6 = .ok (.istore_n 2, 1) := by decide +kernel
theorem d_75_7 : decode (bC 75) 7 = .ok (.iload_n 2, 1) := by decide +kernel
theorem d_75_8 : decode (bC 75) 8 = .ok (.bipush 12, 2) := by decide +kernel
theorem d_75_10 : decode (bC 75) 10 = .ok (.if_icmp .ge 49, 3) := by decide +kernel
theorem d_75_13 : decode (bC 75) 13 = .ok (.aload_n 0, 1) := by decide +kernel
theorem d_75_14 : decode (bC 75) 14 = .ok (.getfield 50, 3) := by decide +kernel
theorem d_75_17 : decode (bC 75) 17 = .ok (.iload_n 2, 1) := by decide +kernel
theorem d_75_18 : decode (bC 75) 18 = .ok (.aload_n 0, 1) := by decide +kernel
theorem d_75_19 : decode (bC 75) 19 = .ok (.getfield 34, 3) := by decide +kernel
theorem d_75_22 : decode (bC 75) 22 = .ok (.iload_n 2, 1) := by decide +kernel
theorem d_75_23 : decode (bC 75) 23 = .ok (.iaload, 1) := by decide +kernel
theorem d_75_24 : decode (bC 75) 24 = .ok (.iconst 1, 1) := by decide +kernel
theorem d_75_25 : decode (bC 75) 25 = .ok (.if_icmp .eq 22, 3) := by decide +kernel
theorem d_75_28 : decode (bC 75) 28 = .ok (.aload_n 0, 1) := by decide +kernel
theorem d_75_29 : decode (bC 75) 29 = .ok (.getfield 34, 3) := by decide +kernel
theorem d_75_32 : decode (bC 75) 32 = .ok (.iload_n 2, 1) := by decide +kernel
theorem d_75_33 : decode (bC 75) 33 = .ok (.iaload, 1) := by decide +kernel
theorem d_75_34 : decode (bC 75) 34 = .ok (.iconst 2, 1) := by decide +kernel
theorem d_75_35 : decode (bC 75) 35 = .ok (.if_icmp .eq 12, 3) := by decide +kernel
theorem d_75_38 : decode (bC 75) 38 = .ok (.aload_n 0, 1) := by decide +kernel
theorem d_75_39 : decode (bC 75) 39 = .ok (.getfield 78, 3) := by decide +kernel
theorem d_75_42 : decode (bC 75) 42 = .ok (.iload_n 2, 1) := by decide +kernel
theorem d_75_43 : decode (bC 75) 43 = .ok (.baload, 1) := by decide +kernel
theorem d_75_44 : decode (bC 75) 44 = .ok (.ifCond .eq 7, 3) := by decide +kernel
theorem d_75_47 : decode (bC 75) 47 = .ok (.iconst 1, 1) := by decide +kernel
theorem d_75_48 : decode (bC 75) 48 = .ok (.goto 4, 3) := by decide +kernel
theorem d_75_51 : decode (bC 75) 51 = .ok (.iconst 0, 1) := by decide +kernel
theorem d_75_52 : decode (bC 75) 52 = .ok (.bastore, 1) := by decide +kernel
theorem d_75_53 : decode (bC 75) 53 = .ok (.iinc 2 1, 3) := by decide +kernel
theorem d_75_56 : decode (bC 75) 56 = .ok (.goto (-49), 3) := by decide +kernel
theorem d_75_59 : decode (bC 75) 59 = .ok (.aload_n 0, 1) := by decide +kernel
theorem d_75_60 : decode (bC 75) 60 = .ok (.invokevirtual 109, 3) := by decide +kernel
theorem d_75_63 : decode (bC 75) 63 = .ok (.aload_n 0, 1) := by decide +kernel
theorem d_75_64 : decode (bC 75) 64 = .ok (.getfield 96, 3) := by decide +kernel
theorem d_75_67 : decode (bC 75) 67 = .ok (.ifCond .eq 11, 3) := by decide +kernel
theorem d_75_70 : decode (bC 75) 70 = .ok (.aload_n 0, 1) := by decide +kernel
theorem d_75_71 : decode (bC 75) 71 = .ok (.invokevirtual 112, 3) := by decide +kernel
theorem d_75_74 : decode (bC 75) 74 = .ok (.istore_n 2, 1) := by decide +kernel
theorem d_75_75 : decode (bC 75) 75 = .ok (.bipush (-2), 2) := by decide +kernel
theorem d_75_77 : decode (bC 75) 77 = .ok (.ireturn, 1) := by decide +kernel
theorem d_75_78 : decode (bC 75) 78 = .ok (.iconst 0, 1) := by decide +kernel
theorem d_75_79 : decode (bC 75) 79 = .ok (.istore_n 2, 1) := by decide +kernel
theorem d_75_80 : decode (bC 75) 80 = .ok (.iload_n 2, 1) := by decide +kernel
theorem d_75_81 : decode (bC 75) 81 = .ok (.sipush 192, 3) := by decide +kernel
theorem d_75_84 : decode (bC 75) 84 = .ok (.if_icmp .ge 49, 3) := by decide +kernel
theorem d_75_87 : decode (bC 75) 87 = .ok (.aload_n 0, 1) := by decide +kernel
theorem d_75_88 : decode (bC 75) 88 = .ok (.getfield 28, 3) := by decide +kernel
theorem d_75_91 : decode (bC 75) 91 = .ok (.iload_n 2, 1) := by decide +kernel
theorem d_75_92 : decode (bC 75) 92 = .ok (.iaload, 1) := by decide +kernel
theorem d_75_93 : decode (bC 75) 93 = .ok (.ifCond .lt 34, 3) := by decide +kernel
theorem d_75_96 : decode (bC 75) 96 = .ok (.aload_n 0, 1) := by decide +kernel
theorem d_75_97 : decode (bC 75) 97 = .ok (.getfield 50, 3) := by decide +kernel
theorem d_75_100 : decode (bC 75) 100 = .ok (.iload_n 2, 1) := by decide +kernel
theorem d_75_101 : decode (bC 75) 101 = .ok (.bipush 16, 2) := by decide +kernel
theorem d_75_103 : decode (bC 75) 103 = .ok (.idiv, 1) := by decide +kernel
theorem d_75_104 : decode (bC 75) 104 = .ok (.baload, 1) := by decide +kernel
theorem d_75_105 : decode (bC 75) 105 = .ok (.ifCond .eq 22, 3) := by decide +kernel
theorem d_75_108 : decode (bC 75) 108 = .ok (.aload_n 0, 1) := by decide +kernel
theorem d_75_109 : decode (bC 75) 109 = .ok (.getfield 22, 3) := by decide +kernel
theorem d_75_112 : decode (bC 75) 112 = .ok (.aload_n 0, 1) := by decide +kernel
theorem d_75_113 : decode (bC 75) 113 = .ok (.getfield 28, 3) := by decide +kernel
theorem d_75_116 : decode (bC 75) 116 = .ok (.iload_n 2, 1) := by decide +kernel
theorem d_75_117 : decode (bC 75) 117 = .ok (.iaload, 1) := by decide +kernel
theorem d_75_118 : decode (bC 75) 118 = .ok (.iconst (-1), 1) := by decide +kernel
theorem d_75_119 : decode (bC 75) 119 = .ok (.iastore, 1) := by decide +kernel
theorem d_75_120 : decode (bC 75) 120 = .ok (.aload_n 0, 1) := by decide +kernel
theorem d_75_121 : decode (bC 75) 121 = .ok (.getfield 28, 3) := by decide +kernel
theorem d_75_124 : decode (bC 75) 124 = .ok (.iload_n 2, 1) := by decide +kernel
theorem d_75_125 : decode (bC 75) 125 = .ok (.iconst (-1), 1) := by decide +kernel
theorem d_75_126 : decode (bC 75) 126 = .ok (.iastore, 1) := by decide +kernel
theorem d_75_127 : decode (bC 75) 127 = .ok (.iinc 2 1, 3) := by decide +kernel
theorem d_75_130 : decode (bC 75) 130 = .ok (.goto (-50), 3) := by decide +kernel
theorem d_75_133 : decode (bC 75) 133 = .ok (.iconst 0, 1) := by decide +kernel
theorem d_75_134 : decode (bC 75) 134 = .ok (.istore_n 2, 1) := by decide +kernel
theorem d_75_135 : decode (bC 75) 135 = .ok (.iload_n 2, 1) := by decide +kernel
theorem d_75_136 : decode (bC 75) 136 = .ok (.bipush 12, 2) := by decide +kernel
theorem d_75_138 : decode (bC 75) 138 = .ok (.if_icmp .ge 58, 3) := by decide +kernel
theorem d_75_141 : decode (bC 75) 141 = .ok (.aload_n 0, 1) := by decide +kernel
theorem d_75_142 : decode (bC 75) 142 = .ok (.getfield 50, 3) := by decide +kernel
theorem d_75_145 : decode (bC 75) 145 = .ok (.iload_n 2, 1) := by decide +kernel
theorem d_75_146 : decode (bC 75) 146 = .ok (.baload, 1) := by decide +kernel
theorem d_75_147 : decode (bC 75) 147 = .ok (.ifCond .eq 8, 3) := by decide +kernel
theorem d_75_150 : decode (bC 75) 150 = .ok (.aload_n 0, 1) := by decide +kernel
theorem d_75_151 : decode (bC 75) 151 = .ok (.iload_n 2, 1) := by decide +kernel
theorem d_75_152 : decode (bC 75) 152 = .ok (.invokevirtual 116, 3) := by decide +kernel
theorem d_75_155 : decode (bC 75) 155 = .ok (.aload_n 0, 1) := by decide +kernel
theorem d_75_156 : decode (bC 75) 156 = .ok (.getfield 54, 3) := by decide +kernel
theorem d_75_159 : decode (bC 75) 159 = .ok (.iload_n 2, 1) := by decide +kernel
theorem d_75_160 : decode (bC 75) 160 = .ok (.iaload, 1) := by decide +kernel
theorem d_75_161 : decode (bC 75) 161 = .ok (.ifCond .le 29, 3) := by decide +kernel
theorem d_75_164 : decode (bC 75) 164 = .ok (.aload_n 0, 1) := by decide +kernel
theorem d_75_165 : decode (bC 75) 165 = .ok (.getfield 34, 3) := by decide +kernel
theorem d_75_168 : decode (bC 75) 168 = .ok (.iload_n 2, 1) := by decide +kernel
theorem d_75_169 : decode (bC 75) 169 = .ok (.aload_n 0, 1) := by decide +kernel
theorem d_75_170 : decode (bC 75) 170 = .ok (.getfield 54, 3) := by decide +kernel
theorem d_75_173 : decode (bC 75) 173 = .ok (.iload_n 2, 1) := by decide +kernel
theorem d_75_174 : decode (bC 75) 174 = .ok (.iaload, 1) := by decide +kernel
theorem d_75_175 : decode (bC 75) 175 = .ok (.iastore, 1) := by decide +kernel
theorem d_75_176 : decode (bC 75) 176 = .ok (.aload_n 0, 1) := by decide +kernel
theorem d_75_177 : decode (bC 75) 177 = .ok (.getfield 37, 3) := by decide +kernel
theorem d_75_180 : decode (bC 75) 180 = .ok (.iload_n 2, 1) := by decide +kernel
theorem d_75_181 : decode (bC 75) 181 = .ok (.iconst 0, 1) := by decide +kernel
theorem d_75_182 : decode (bC 75) 182 = .ok (.iastore, 1) := by decide +kernel
theorem d_75_183 : decode (bC 75) 183 = .ok (.aload_n 0, 1) := by decide +kernel
theorem d_75_184 : decode (bC 75) 184 = .ok (.getfield 40, 3) := by decide +kernel
theorem d_75_187 : decode (bC 75) 187 = .ok (.iload_n 2, 1) := by decide +kernel
theorem d_75_188 : decode (bC 75) 188 = .ok (.iconst (-1), 1) := by decide +kernel
theorem d_75_189 : decode (bC 75) 189 = .ok (.iastore, 1) := by decide +kernel
theorem d_75_190 : decode (bC 75) 190 = .ok (.iinc 2 1, 3) := by decide +kernel
theorem d_75_193 : decode (bC 75) 193 = .ok (.goto (-58), 3) := by decide +kernel
theorem d_75_196 : decode (bC 75) 196 = .ok (.iconst 0, 1) := by decide +kernel
theorem d_75_197 : decode (bC 75) 197 = .ok (.istore_n 2, 1) := by decide +kernel
theorem d_75_198 : decode (bC 75) 198 = .ok (.iload_n 2, 1) := by decide +kernel
theorem d_75_199 : decode (bC 75) 199 = .ok (.aload_n 0, 1) := by decide +kernel
theorem d_75_200 : decode (bC 75) 200 = .ok (.getfield 100, 3) := by decide +kernel
theorem d_75_203 : decode (bC 75) 203 = .ok (.if_icmp .ge 81, 3) := by decide +kernel
theorem d_75_206 : decode (bC 75) 206 = .ok (.aload_n 0, 1) := by decide +kernel
theorem d_75_207 : decode (bC 75) 207 = .ok (.getfield 57, 3) := by decide +kernel
theorem d_75_210 : decode (bC 75) 210 = .ok (.iload_n 2, 1) := by decide +kernel
theorem d_75_211 : decode (bC 75) 211 = .ok (.iaload, 1) := by decide +kernel
theorem d_75_212 : decode (bC 75) 212 = .ok (.istore_n 3, 1) := by decide +kernel
theorem d_75_213 : decode (bC 75) 213 = .ok (.aload_n 0, 1) := by decide +kernel
theorem d_75_214 : decode (bC 75) 214 = .ok (.iload_n 3, 1) := by decide +kernel
theorem d_75_215 : decode (bC 75) 215 = .ok (.aload_n 0, 1) := by decide +kernel
theorem d_75_216 : decode (bC 75) 216 = .ok (.getfield 63, 3) := by decide +kernel
theorem d_75_219 : decode (bC 75) 219 = .ok (.iload_n 3, 1) := by decide +kernel
theorem d_75_220 : decode (bC 75) 220 = .ok (.iaload, 1) := by decide +kernel
theorem d_75_221 : decode (bC 75) 221 = .ok (.aload_n 0, 1) := by decide +kernel
theorem d_75_222 : decode (bC 75) 222 = .ok (.getfield 66, 3) := by decide +kernel
theorem d_75_225 : decode (bC 75) 225 = .ok (.iload_n 3, 1) := by decide +kernel
theorem d_75_226 : decode (bC 75) 226 = .ok (.iaload, 1) := by decide +kernel
theorem d_75_227 : decode (bC 75) 227 = .ok (.invokevirtual 119, 3) := by decide +kernel
theorem d_75_230 : decode (bC 75) 230 = .ok (.aload_n 0, 1) := by decide +kernel
theorem d_75_231 : decode (bC 75) 231 = .ok (.getfield 37, 3) := by decide +kernel
theorem d_75_234 : decode (bC 75) 234 = .ok (.aload_n 0, 1) := by decide +kernel
theorem d_75_235 : decode (bC 75) 235 = .ok (.getfield 63, 3) := by decide +kernel
theorem d_75_238 : decode (bC 75) 238 = .ok (.iload_n 3, 1) := by decide +kernel
theorem d_75_239 : decode (bC 75) 239 = .ok (.iaload, 1) := by decide +kernel
theorem d_75_240 : decode (bC 75) 240 = .ok (.aload_n 0, 1) := by decide +kernel
theorem d_75_241 : decode (bC 75) 241 = .ok (.getfield 37, 3) := by decide +kernel
theorem d_75_244 : decode (bC 75) 244 = .ok (.aload_n 0, 1) := by decide +kernel
theorem d_75_245 : decode (bC 75) 245 = .ok (.getfield 63, 3) := by decide +kernel
theorem d_75_248 : decode (bC 75) 248 = .ok (.iload_n 3, 1) := by decide +kernel
theorem d_75_249 : decode (bC 75) 249 = .ok (.iaload, 1) := by decide +kernel
theorem d_75_250 : decode (bC 75) 250 = .ok (.iaload, 1) := by decide +kernel
theorem d_75_251 : decode (bC 75) 251 = .ok (.aload_n 0, 1) := by decide +kernel
theorem d_75_252 : decode (bC 75) 252 = .ok (.getfield 13, 3) := by decide +kernel
theorem d_75_255 : decode (bC 75) 255 = .ok (.iload_n 3, 1) := by decide +kernel
theorem d_75_256 : decode (bC 75) 256 = .ok (.iaload, 1) := by decide +kernel
theorem d_75_257 : decode (bC 75) 257 = .ok (.iadd, 1) := by decide +kernel
theorem d_75_258 : decode (bC 75) 258 = .ok (.iastore, 1) := by decide +kernel
theorem d_75_259 : decode (bC 75) 259 = .ok (.aload_n 0, 1) := by decide +kernel
theorem d_75_260 : decode (bC 75) 260 = .ok (.getfield 47, 3) := by decide +kernel
theorem d_75_263 : decode (bC 75) 263 = .ok (.iconst 2, 1) := by decide +kernel
theorem d_75_264 : decode (bC 75) 264 = .ok (.aload_n 0, 1) := by decide +kernel
theorem d_75_265 : decode (bC 75) 265 = .ok (.getfield 47, 3) := by decide +kernel
theorem d_75_268 : decode (bC 75) 268 = .ok (.iconst 2, 1) := by decide +kernel
theorem d_75_269 : decode (bC 75) 269 = .ok (.iaload, 1) := by decide +kernel
theorem d_75_270 : decode (bC 75) 270 = .ok (.aload_n 0, 1) := by decide +kernel
theorem d_75_271 : decode (bC 75) 271 = .ok (.getfield 13, 3) := by decide +kernel
theorem d_75_274 : decode (bC 75) 274 = .ok (.iload_n 3, 1) := by decide +kernel
theorem d_75_275 : decode (bC 75) 275 = .ok (.iaload, 1) := by decide +kernel
theorem d_75_276 : decode (bC 75) 276 = .ok (.iadd, 1) := by decide +kernel
theorem d_75_277 : decode (bC 75) 277 = .ok (.iastore, 1) := by decide +kernel
theorem d_75_278 : decode (bC 75) 278 = .ok (.iinc 2 1, 3) := by decide +kernel
theorem d_75_281 : decode (bC 75) 281 = .ok (.goto (-83), 3) := by decide +kernel
theorem d_75_284 : decode (bC 75) 284 = .ok (.aload_n 0, 1) := by decide +kernel
theorem d_75_285 : decode (bC 75) 285 = .ok (.iconst (-1), 1) := by decide +kernel
theorem d_75_286 : decode (bC 75) 286 = .ok (.putfield 43, 3) := by decide +kernel
theorem d_75_289 : decode (bC 75) 289 = .ok (.aload_n 0, 1) := by decide +kernel
theorem d_75_290 : decode (bC 75) 290 = .ok (.getfield 47, 3) := by decide +kernel
theorem d_75_293 : decode (bC 75) 293 = .ok (.iconst 0, 1) := by decide +kernel
theorem d_75_294 : decode (bC 75) 294 = .ok (.dup2, 1) := by decide +kernel
theorem d_75_295 : decode (bC 75) 295 = .ok (.iaload, 1) := by decide +kernel
theorem d_75_296 : decode (bC 75) 296 = .ok (.iconst 1, 1) := by decide +kernel
theorem d_75_297 : decode (bC 75) 297 = .ok (.iadd, 1) := by decide +kernel
theorem d_75_298 : decode (bC 75) 298 = .ok (.iastore, 1) := by decide +kernel
theorem d_75_299 : decode (bC 75) 299 = .ok (.aload_n 0, 1) := by decide +kernel
theorem d_75_300 : decode (bC 75) 300 = .ok (.getfield 100, 3) := by decide +kernel
theorem d_75_303 : decode (bC 75) 303 = .ok (.ireturn, 1) := by decide +kernel
theorem d_76_0 : decode (bC 76) 0 = .ok (.aload_n 0, 1) := by decide +kernel
theorem d_76_1 : decode (bC 76) 1 = .ok (.invokevirtual 81, 3) := by decide +kernel
theorem d_76_4 : decode (bC 76) 4 = .ok (.iconst 0, 1) := by decide +kernel
theorem d_76_5 : decode (bC 76) 5 = .ok (.istore_n 1, 1) := by decide +kernel
theorem d_76_6 : decode (bC 76) 6 = .ok (.iconst 0, 1) := by decide +kernel
theorem d_76_7 : decode (bC 76) 7 = .ok (.istore_n 2, 1) := by decide +kernel
theorem d_76_8 : decode (bC 76) 8 = .ok (.iload_n 2, 1) := by decide +kernel
theorem d_76_9 : decode (bC 76) 9 = .ok (.bipush 97, 2) := by decide +kernel
theorem d_76_11 : decode (bC 76) 11 = .ok (.if_icmp .ge 32, 3) := by decide +kernel
theorem d_76_14 : decode (bC 76) 14 = .ok (.aload_n 0, 1) := by decide +kernel
theorem d_76_15 : decode (bC 76) 15 = .ok (.getfield 22, 3) := by decide +kernel
theorem d_76_18 : decode (bC 76) 18 = .ok (.iload_n 2, 1) := by decide +kernel
theorem d_76_19 : decode (bC 76) 19 = .ok (.iaload, 1) := by decide +kernel
theorem d_76_20 : decode (bC 76) 20 = .ok (.ifCond .lt 17, 3) := by decide +kernel
theorem d_76_23 : decode (bC 76) 23 = .ok (.aload_n 0, 1) := by decide +kernel
theorem d_76_24 : decode (bC 76) 24 = .ok (.getfield 75, 3) := by decide +kernel
theorem d_76_27 : decode (bC 76) 27 = .ok (.iload_n 2, 1) := by decide +kernel
theorem d_76_28 : decode (bC 76) 28 = .ok (.baload, 1) := by decide +kernel
theorem d_76_29 : decode (bC 76) 29 = .ok (.ifCond .ne 8, 3) := by decide +kernel
theorem d_76_32 : decode (bC 76) 32 = .ok (.aload_n 0, 1) := by decide +kernel
theorem d_76_33 : decode (bC 76) 33 = .ok (.iload_n 2, 1) := by decide +kernel
theorem d_76_34 : decode (bC 76) 34 = .ok (.invokevirtual 123, 3) := by decide +kernel
theorem d_76_37 : decode (bC 76) 37 = .ok (.iinc 2 1, 3) := by decide +kernel
theorem d_76_40 : decode (bC 76) 40 = .ok (.goto (-32), 3) := by decide +kernel
theorem d_76_43 : decode (bC 76) 43 = .ok (.aload_n 0, 1) := by decide +kernel
theorem d_76_44 : decode (bC 76) 44 = .ok (.iconst 0, 1) := by decide +kernel
theorem d_76_45 : decode (bC 76) 45 = .ok (.putfield 100, 3) := by decide +kernel
theorem d_76_48 : decode (bC 76) 48 = .ok (.iconst 0, 1) := by decide +kernel
theorem d_76_49 : decode (bC 76) 49 = .ok (.istore_n 2, 1) := by decide +kernel
theorem d_76_50 : decode (bC 76) 50 = .ok (.iload_n 2, 1) := by decide +kernel
theorem d_76_51 : decode (bC 76) 51 = .ok (.sipush 192, 3) := by decide +kernel
theorem d_76_54 : decode (bC 76) 54 = .ok (.if_icmp .ge 72, 3) := by decide +kernel
theorem d_76_57 : decode (bC 76) 57 = .ok (.aload_n 0, 1) := by decide +kernel
theorem d_76_58 : decode (bC 76) 58 = .ok (.getfield 28, 3) := by decide +kernel
theorem d_76_61 : decode (bC 76) 61 = .ok (.iload_n 2, 1) := by decide +kernel
theorem d_76_62 : decode (bC 76) 62 = .ok (.iaload, 1) := by decide +kernel
theorem d_76_63 : decode (bC 76) 63 = .ok (.istore_n 3, 1) := by decide +kernel
theorem d_76_64 : decode (bC 76) 64 = .ok (.iload_n 1, 1) := by decide +kernel
theorem d_76_65 : decode (bC 76) 65 = .ok (.iload_n 3, 1) := by decide +kernel
theorem d_76_66 : decode (bC 76) 66 = .ok (.ifCond .lt 7, 3) := by decide +kernel
theorem d_76_69 : decode (bC 76) 69 = .ok (.iconst 1, 1) := by decide +kernel
theorem d_76_70 : decode (bC 76) 70 = .ok (.goto 4, 3) := by decide +kernel
theorem d_76_73 : decode (bC 76) 73 = .ok (.iconst 0, 1) := by decide +kernel
theorem d_76_74 : decode (bC 76) 74 = .ok (.iadd, 1) := by decide +kernel
theorem d_76_75 : decode (bC 76) 75 = .ok (.istore_n 1, 1) := by decide +kernel
theorem d_76_76 : decode (bC 76) 76 = .ok (.iload_n 3, 1) := by decide +kernel
theorem d_76_77 : decode (bC 76) 77 = .ok (.ifCond .lt 43, 3) := by decide +kernel
theorem d_76_80 : decode (bC 76) 80 = .ok (.aload_n 0, 1) := by decide +kernel
theorem d_76_81 : decode (bC 76) 81 = .ok (.getfield 34, 3) := by decide +kernel
theorem d_76_84 : decode (bC 76) 84 = .ok (.iload_n 2, 1) := by decide +kernel
theorem d_76_85 : decode (bC 76) 85 = .ok (.bipush 16, 2) := by decide +kernel
theorem d_76_87 : decode (bC 76) 87 = .ok (.idiv, 1) := by decide +kernel
theorem d_76_88 : decode (bC 76) 88 = .ok (.iaload, 1) := by decide +kernel
theorem d_76_89 : decode (bC 76) 89 = .ok (.iconst 4, 1) := by decide +kernel
theorem d_76_90 : decode (bC 76) 90 = .ok (.if_icmp .ge 30, 3) := by decide +kernel
theorem d_76_93 : decode (bC 76) 93 = .ok (.aload_n 0, 1) := by decide +kernel
theorem d_76_94 : decode (bC 76) 94 = .ok (.getfield 57, 3) := by decide +kernel
theorem d_76_97 : decode (bC 76) 97 = .ok (.aload_n 0, 1) := by decide +kernel
theorem d_76_98 : decode (bC 76) 98 = .ok (.getfield 100, 3) := by decide +kernel
theorem d_76_101 : decode (bC 76) 101 = .ok (.iload_n 3, 1) := by decide +kernel
theorem d_76_102 : decode (bC 76) 102 = .ok (.iastore, 1) := by decide +kernel
theorem d_76_103 : decode (bC 76) 103 = .ok (.aload_n 0, 1) := by decide +kernel
theorem d_76_104 : decode (bC 76) 104 = .ok (.dup, 1) := by decide +kernel
theorem d_76_105 : decode (bC 76) 105 = .ok (.getfield 100, 3) := by decide +kernel
theorem d_76_108 : decode (bC 76) 108 = .ok (.iconst 1, 1) := by decide +kernel
theorem d_76_109 : decode (bC 76) 109 = .ok (.iadd, 1) := by decide +kernel
theorem d_76_110 : decode (bC 76) 110 = .ok (.putfield 100, 3) := by decide +kernel
theorem d_76_113 : decode (bC 76) 113 = .ok (.aload_n 0, 1) := by decide +kernel
theorem d_76_114 : decode (bC 76) 114 = .ok (.getfield 28, 3) := by decide +kernel
theorem d_76_117 : decode (bC 76) 117 = .ok (.iload_n 2, 1) := by decide +kernel
theorem d_76_118 : decode (bC 76) 118 = .ok (.iconst (-1), 1) := by decide +kernel
theorem d_76_119 : decode (bC 76) 119 = .ok (.iastore, 1) := by decide +kernel
theorem d_76_120 : decode (bC 76) 120 = .ok (.iinc 2 1, 3) := by decide +kernel
theorem d_76_123 : decode (bC 76) 123 = .ok (.goto (-73), 3) := by decide +kernel
theorem d_76_126 : decode (bC 76) 126 = .ok (.iconst 0, 1) := by decide +kernel
theorem d_76_127 : decode (bC 76) 127 = .ok (.istore_n 2, 1) := by decide +kernel
theorem d_76_128 : decode (bC 76) 128 = .ok (.iload_n 2, 1) := by decide +kernel
theorem d_76_129 : decode (bC 76) 129 = .ok (.bipush 12, 2) := by decide +kernel
theorem d_76_131 : decode (bC 76) 131 = .ok (.if_icmp .ge 24, 3) := by decide +kernel
theorem d_76_134 : decode (bC 76) 134 = .ok (.aload_n 0, 1) := by decide +kernel
theorem d_76_135 : decode (bC 76) 135 = .ok (.getfield 34, 3) := by decide +kernel
theorem d_76_138 : decode (bC 76) 138 = .ok (.iload_n 2, 1) := by decide +kernel
theorem d_76_139 : decode (bC 76) 139 = .ok (.iaload, 1) := by decide +kernel
theorem d_76_140 : decode (bC 76) 140 = .ok (.iconst 4, 1) := by decide +kernel
theorem d_76_141 : decode (bC 76) 141 = .ok (.if_icmp .ge 8, 3) := by decide +kernel
theorem d_76_144 : decode (bC 76) 144 = .ok (.aload_n 0, 1) := by decide +kernel
theorem d_76_145 : decode (bC 76) 145 = .ok (.iload_n 2, 1) := by decide +kernel
theorem d_76_146 : decode (bC 76) 146 = .ok (.invokevirtual 116, 3) := by decide +kernel
theorem d_76_149 : decode (bC 76) 149 = .ok (.iinc 2 1, 3) := by decide +kernel
theorem d_76_152 : decode (bC 76) 152 = .ok (.goto (-24), 3) := by decide +kernel
theorem d_76_155 : decode (bC 76) 155 = .ok (.aload_n 0, 1) := by decide +kernel
theorem d_76_156 : decode (bC 76) 156 = .ok (.iconst (-1), 1) := by decide +kernel
theorem d_76_157 : decode (bC 76) 157 = .ok (.invokevirtual 126, 3) := by decide +kernel
theorem d_76_160 : decode (bC 76) 160 = .ok (.istore_n 2, 1) := by decide +kernel
theorem d_76_161 : decode (bC 76) 161 = .ok (.iconst 0, 1) := by decide +kernel
theorem d_76_162 : decode (bC 76) 162 = .ok (.istore_n 3, 1) := by decide +kernel
theorem d_76_163 : decode (bC 76) 163 = .ok (.iload_n 3, 1) := by decide +kernel
theorem d_76_164 : decode (bC 76) 164 = .ok (.aload_n 0, 1) := by decide +kernel
theorem d_76_165 : decode (bC 76) 165 = .ok (.getfield 100, 3) := by decide +kernel
theorem d_76_168 : decode (bC 76) 168 = .ok (.if_icmp .ge 98, 3) := by decide +kernel
theorem d_76_171 : decode (bC 76) 171 = .ok (.aload_n 0, 1) := by decide +kernel
theorem d_76_172 : decode (bC 76) 172 = .ok (.getfield 57, 3) := by decide +kernel
theorem d_76_175 : decode (bC 76) 175 = .ok (.iload_n 3, 1) := by decide +kernel
theorem d_76_176 : decode (bC 76) 176 = .ok (.iaload, 1) := by decide +kernel
theorem d_76_177 : decode (bC 76) 177 = .ok (.istore 4, 2) := by decide +kernel
theorem d_76_179 : decode (bC 76) 179 = .ok (.aload_n 0, 1) := by decide +kernel
theorem d_76_180 : decode (bC 76) 180 = .ok (.getfield 37, 3) := by decide +kernel
theorem d_76_183 : decode (bC 76) 183 = .ok (.iload_n 2, 1) := by decide +kernel
theorem d_76_184 : decode (bC 76) 184 = .ok (.iaload, 1) := by decide +kernel
theorem d_76_185 : decode (bC 76) 185 = .ok (.aload_n 0, 1) := by decide +kernel
theorem d_76_186 : decode (bC 76) 186 = .ok (.getfield 13, 3) := by decide +kernel
theorem d_76_189 : decode (bC 76) 189 = .ok (.iload 4, 2) := by decide +kernel
theorem d_76_191 : decode (bC 76) 191 = .ok (.iaload, 1) := by decide +kernel
theorem d_76_192 : decode (bC 76) 192 = .ok (.iadd, 1) := by decide +kernel
theorem d_76_193 : decode (bC 76) 193 = .ok (.bipush 16, 2) := by decide +kernel
theorem d_76_195 : decode (bC 76) 195 = .ok (.if_icmp .le 11, 3) := by decide +kernel
theorem d_76_198 : decode (bC 76) 198 = .ok (.aload_n 0, 1) := by decide +kernel
theorem d_76_199 : decode (bC 76) 199 = .ok (.iload_n 2, 1) := by decide +kernel
theorem d_76_200 : decode (bC 76) 200 = .ok (.invokevirtual 126, 3) := by decide +kernel
theorem d_76_203 : decode (bC 76) 203 = .ok (.goto 4, 3) := by decide +kernel
theorem d_76_206 : decode (bC 76) 206 = .ok (.iload_n 2, 1) := by decide +kernel
theorem d_76_207 : decode (bC 76) 207 = .ok (.istore_n 2, 1) := by decide +kernel
theorem d_76_208 : decode (bC 76) 208 = .ok (.aload_n 0, 1) := by decide +kernel
theorem d_76_209 : decode (bC 76) 209 = .ok (.iload 4, 2) := by decide +kernel
theorem d_76_211 : decode (bC 76) 211 = .ok (.iload_n 2, 1) := by decide +kernel
theorem d_76_212 : decode (bC 76) 212 = .ok (.aload_n 0, 1) := by decide +kernel
theorem d_76_213 : decode (bC 76) 213 = .ok (.getfield 37, 3) := by decide +kernel
theorem d_76_216 : decode (bC 76) 216 = .ok (.iload_n 2, 1) := by decide +kernel
theorem d_76_217 : decode (bC 76) 217 = .ok (.iaload, 1) := by decide +kernel
theorem d_76_218 : decode (bC 76) 218 = .ok (.invokevirtual 119, 3) := by decide +kernel
theorem d_76_221 : decode (bC 76) 221 = .ok (.aload_n 0, 1) := by decide +kernel
theorem d_76_222 : decode (bC 76) 222 = .ok (.getfield 37, 3) := by decide +kernel
theorem d_76_225 : decode (bC 76) 225 = .ok (.iload_n 2, 1) := by decide +kernel
theorem d_76_226 : decode (bC 76) 226 = .ok (.aload_n 0, 1) := by decide +kernel
theorem d_76_227 : decode (bC 76) 227 = .ok (.getfield 37, 3) := by decide +kernel
theorem d_76_230 : decode (bC 76) 230 = .ok (.iload_n 2, 1) := by decide +kernel
theorem d_76_231 : decode (bC 76) 231 = .ok (.iaload, 1) := by decide +kernel
theorem d_76_232 : decode (bC 76) 232 = .ok (.aload_n 0, 1) := by decide +kernel
theorem d_76_233 : decode (bC 76) 233 = .ok (.getfield 13, 3) := by decide +kernel
theorem d_76_236 : decode (bC 76) 236 = .ok (.iload 4, 2) := by decide +kernel
theorem d_76_238 : decode (bC 76) 238 = .ok (.iaload, 1) := by decide +kernel
theorem d_76_239 : decode (bC 76) 239 = .ok (.iadd, 1) := by decide +kernel
theorem d_76_240 : decode (bC 76) 240 = .ok (.iastore, 1) := by decide +kernel
theorem d_76_241 : decode (bC 76) 241 = .ok (.aload_n 0, 1) := by decide +kernel
theorem d_76_242 : decode (bC 76) 242 = .ok (.getfield 34, 3) := by decide +kernel
theorem d_76_245 : decode (bC 76) 245 = .ok (.iload_n 2, 1) := by decide +kernel
theorem d_76_246 : decode (bC 76) 246 = .ok (.iconst 3, 1) := by decide +kernel
theorem d_76_247 : decode (bC 76) 247 = .ok (.iastore, 1) := by decide +kernel
theorem d_76_248 : decode (bC 76) 248 = .ok (.aload_n 0, 1) := by decide +kernel
theorem d_76_249 : decode (bC 76) 249 = .ok (.getfield 40, 3) := by decide +kernel
theorem d_76_252 : decode (bC 76) 252 = .ok (.iload_n 2, 1) := by decide +kernel
theorem d_76_253 : decode (bC 76) 253 = .ok (.aload_n 0, 1) := by decide +kernel
theorem d_76_254 : decode (bC 76) 254 = .ok (.getfield 37, 3) := by decide +kernel
theorem d_76_257 : decode (bC 76) 257 = .ok (.iload_n 2, 1) := by decide +kernel
theorem d_76_258 : decode (bC 76) 258 = .ok (.iaload, 1) := by decide +kernel
theorem d_76_259 : decode (bC 76) 259 = .ok (.iastore, 1) := by decide +kernel
theorem d_76_260 : decode (bC 76) 260 = .ok (.iinc 3 1, 3) := by decide +kernel
theorem d_76_263 : decode (bC 76) 263 = .ok (.goto (-100), 3) := by decide +kernel
theorem d_76_266 : decode (bC 76) 266 = .ok (.aload_n 0, 1) := by decide +kernel
theorem d_76_267 : decode (bC 76) 267 = .ok (.iconst (-1), 1) := by decide +kernel
theorem d_76_268 : decode (bC 76) 268 = .ok (.putfield 43, 3) := by decide +kernel
theorem d_76_271 : decode (bC 76) 271 = .ok (.aload_n 0, 1) := by decide +kernel
theorem d_76_272 : decode (bC 76) 272 = .ok (.getfield 47, 3) := by decide +kernel
theorem d_76_275 : decode (bC 76) 275 = .ok (.iconst 1, 1) := by decide +kernel
theorem d_76_276 : decode (bC 76) 276 = .ok (.dup2, 1) := by decide +kernel
theorem d_76_277 : decode (bC 76) 277 = .ok (.iaload, 1) := by decide +kernel
theorem d_76_278 : decode (bC 76) 278 = .ok (.iconst 1, 1) := by decide +kernel
theorem d_76_279 : decode (bC 76) 279 = .ok (.iadd, 1) := by decide +kernel
theorem d_76_280 : decode (bC 76) 280 = .ok (.iastore, 1) := by decide +kernel
theorem d_76_281 : decode (bC 76) 281 = .ok (.iload_n 1, 1) := by decide +kernel
theorem d_76_282 : decode (bC 76) 282 = .ok (.ireturn, 1) := by decide +kernel
