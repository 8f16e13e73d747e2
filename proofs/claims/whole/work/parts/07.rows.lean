theorem fk_0_11 : fok "RegionHeap" 11 0 0 := ⟨by decide, by decide, by decide, Or.inl (g_in 125 (by decide +kernel) rfl)⟩
theorem fk_0_20 : fok "RegionHeap" 20 0 1 := ⟨by decide, by decide, by decide, Or.inl (g_in 126 (by decide +kernel) rfl)⟩
theorem fk_0_24 : fok "RegionHeap" 24 0 2 := ⟨by decide, by decide, by decide, Or.inl (g_in 127 (by decide +kernel) rfl)⟩
theorem fk_0_27 : fok "RegionHeap" 27 0 4 := ⟨by decide, by decide, by decide, Or.inl (g_in 129 (by decide +kernel) rfl)⟩
theorem fk_0_49 : fok "RegionHeap" 49 2 5 := ⟨by decide, by decide, by decide, Or.inr ⟨"RegionHeap", n_in 90 (by decide +kernel) rfl⟩⟩
theorem fk_0_53 : fok "RegionHeap" 53 1 0 := ⟨by decide, by decide, by decide, Or.inr ⟨"RegionHeap", n_in 304 (by decide +kernel) rfl⟩⟩
theorem fk_0_68 : fok "RegionHeap" 68 0 9 := ⟨by decide, by decide, by decide, Or.inl (g_in 134 (by decide +kernel) rfl)⟩
theorem fk_0_83 : fok "RegionHeap" 83 0 5 := ⟨by decide, by decide, by decide, Or.inl (g_in 130 (by decide +kernel) rfl)⟩
theorem fk_0_93 : fok "RegionHeap" 93 2 3 := ⟨by decide, by decide, by decide, Or.inr ⟨"RegionHeap", n_in 86 (by decide +kernel) rfl⟩⟩
theorem fk_0_96 : fok "RegionHeap" 96 1 1 := ⟨by decide, by decide, by decide, Or.inr ⟨"RegionHeap", n_in 307 (by decide +kernel) rfl⟩⟩
theorem fk_0_105 : fok "RegionHeap" 105 2 4 := ⟨by decide, by decide, by decide, Or.inr ⟨"RegionHeap", n_in 88 (by decide +kernel) rfl⟩⟩
theorem fk_0_118 : fok "RegionHeap" 118 1 2 := ⟨by decide, by decide, by decide, Or.inr ⟨"RegionHeap", n_in 309 (by decide +kernel) rfl⟩⟩
theorem fk_0_140 : fok "RegionHeap" 140 0 3 := ⟨by decide, by decide, by decide, Or.inl (g_in 128 (by decide +kernel) rfl)⟩
theorem fk_0_143 : fok "RegionHeap" 143 2 6 := ⟨by decide, by decide, by decide, Or.inr ⟨"RegionHeap", n_in 91 (by decide +kernel) rfl⟩⟩
theorem fk_0_147 : fok "RegionHeap" 147 2 7 := ⟨by decide, by decide, by decide, Or.inr ⟨"RegionHeap", n_in 92 (by decide +kernel) rfl⟩⟩
theorem fk_0_150 : fok "RegionHeap" 150 2 8 := ⟨by decide, by decide, by decide, Or.inr ⟨"RegionHeap", n_in 93 (by decide +kernel) rfl⟩⟩
theorem fk_0_153 : fok "RegionHeap" 153 2 2 := ⟨by decide, by decide, by decide, Or.inr ⟨"RegionHeap", n_in 84 (by decide +kernel) rfl⟩⟩
theorem fk_0_156 : fok "RegionHeap" 156 2 1 := ⟨by decide, by decide, by decide, Or.inr ⟨"RegionHeap", n_in 82 (by decide +kernel) rfl⟩⟩
theorem fk_0_159 : fok "RegionHeap" 159 1 6 := ⟨by decide, by decide, by decide, Or.inr ⟨"RegionHeap", n_in 316 (by decide +kernel) rfl⟩⟩
theorem fk_0_169 : fok "RegionHeap" 169 1 3 := ⟨by decide, by decide, by decide, Or.inr ⟨"RegionHeap", n_in 311 (by decide +kernel) rfl⟩⟩
theorem fk_0_179 : fok "RegionHeap" 179 0 8 := ⟨by decide, by decide, by decide, Or.inl (g_in 133 (by decide +kernel) rfl)⟩
theorem fk_0_182 : fok "RegionHeap" 182 0 6 := ⟨by decide, by decide, by decide, Or.inl (g_in 131 (by decide +kernel) rfl)⟩
theorem fk_0_192 : fok "RegionHeap" 192 2 9 := ⟨by decide, by decide, by decide, Or.inr ⟨"RegionHeap", n_in 94 (by decide +kernel) rfl⟩⟩
theorem fk_0_195 : fok "RegionHeap" 195 2 11 := ⟨by decide, by decide, by decide, Or.inr ⟨"RegionHeap", n_in 98 (by decide +kernel) rfl⟩⟩
theorem fk_0_198 : fok "RegionHeap" 198 2 0 := ⟨by decide, by decide, by decide, Or.inr ⟨"RegionHeap", n_in 80 (by decide +kernel) rfl⟩⟩
theorem fk_0_201 : fok "RegionHeap" 201 2 10 := ⟨by decide, by decide, by decide, Or.inr ⟨"RegionHeap", n_in 96 (by decide +kernel) rfl⟩⟩
theorem fk_0_231 : fok "RegionHeap" 231 1 5 := ⟨by decide, by decide, by decide, Or.inr ⟨"RegionHeap", n_in 315 (by decide +kernel) rfl⟩⟩
theorem fk_0_240 : fok "RegionHeap" 240 0 7 := ⟨by decide, by decide, by decide, Or.inl (g_in 132 (by decide +kernel) rfl)⟩
theorem fk_0_247 : fok "RegionHeap" 247 1 4 := ⟨by decide, by decide, by decide, Or.inr ⟨"RegionHeap", n_in 313 (by decide +kernel) rfl⟩⟩
theorem nk_0_9 : 5 = 4 ∧ Cond.classLink "RegionHeap" 9 C_Item ∈ gd ∨ 5 = 5 ∧ Cond.classLink "RegionHeap" 9 C_Region ∈ gd := Or.inr ⟨rfl, g_in 70 (by decide +kernel) rfl⟩
theorem nk_0_18 : nok "RegionHeap" 18 1 := ⟨by decide, g_in 124 (by decide +kernel) rfl, g_in 297 (by decide +kernel) rfl, g_in 60 (by decide +kernel) rfl⟩
theorem lk_0_3 : Cond.methodLink "RegionHeap" 3 Lib.objectInit ∈ gd := g_in 67 (by decide +kernel) rfl
theorem lk_0_15 : lok "RegionHeap" 15 2 := Or.inr ⟨"RegionHeap", n_in 73 (by decide +kernel) rfl⟩
theorem lk_0_30 : Cond.methodLink "RegionHeap" 30 (nm 23) ∈ gd := g_in 160 (by decide +kernel) rfl
theorem lk_0_34 : Cond.methodLink "RegionHeap" 34 (nm 25) ∈ gd := g_in 163 (by decide +kernel) rfl
theorem lk_0_37 : lok "RegionHeap" 37 13 := Or.inl (g_in 166 (by decide +kernel) rfl)
theorem lk_0_41 : lok "RegionHeap" 41 12 := Or.inl (g_in 293 (by decide +kernel) rfl)
theorem lk_0_45 : lok "RegionHeap" 45 5 := Or.inr ⟨"RegionHeap", n_in 281 (by decide +kernel) rfl⟩
theorem lk_0_56 : lok "RegionHeap" 56 17 := Or.inl (g_in 178 (by decide +kernel) rfl)
theorem lk_0_60 : lok "RegionHeap" 60 48 := Or.inl (g_in 241 (by decide +kernel) rfl)
theorem lk_0_64 : lok "RegionHeap" 64 18 := Or.inl (g_in 336 (by decide +kernel) rfl)
theorem lk_0_71 : lok "RegionHeap" 71 0 := Or.inr ⟨"RegionHeap", n_in 298 (by decide +kernel) rfl⟩
theorem lk_0_74 : lok "RegionHeap" 74 14 := Or.inl (g_in 170 (by decide +kernel) rfl)
theorem lk_0_77 : lok "RegionHeap" 77 28 := Or.inl (g_in 186 (by decide +kernel) rfl)
theorem lk_0_80 : lok "RegionHeap" 80 16 := Or.inl (g_in 289 (by decide +kernel) rfl)
theorem lk_0_87 : lok "RegionHeap" 87 3 := Or.inr ⟨"RegionHeap", n_in 174 (by decide +kernel) rfl⟩
theorem lk_0_90 : lok "RegionHeap" 90 15 := Or.inl (g_in 182 (by decide +kernel) rfl)
theorem lk_0_99 : Cond.methodLink "RegionHeap" 99 Lib.Math.min.name ∈ gd := g_in 340 (by decide +kernel) rfl
theorem lk_0_108 : lok "RegionHeap" 108 22 := Or.inl (g_in 347 (by decide +kernel) rfl)
theorem lk_0_112 : lok "RegionHeap" 112 1 := Or.inr ⟨"RegionHeap", n_in 351 (by decide +kernel) rfl⟩
theorem lk_0_115 : Cond.methodLink "RegionHeap" 115 (nm 24) ∈ gd := g_in 355 (by decide +kernel) rfl
theorem lk_0_121 : lok "RegionHeap" 121 38 := Or.inl (g_in 190 (by decide +kernel) rfl)
theorem lk_0_124 : lok "RegionHeap" 124 29 := Or.inl (g_in 213 (by decide +kernel) rfl)
theorem lk_0_127 : lok "RegionHeap" 127 30 := Or.inl (g_in 217 (by decide +kernel) rfl)
theorem lk_0_131 : lok "RegionHeap" 131 31 := Or.inl (g_in 229 (by decide +kernel) rfl)
theorem lk_0_134 : lok "RegionHeap" 134 32 := Or.inl (g_in 237 (by decide +kernel) rfl)
theorem lk_0_137 : lok "RegionHeap" 137 36 := Or.inl (g_in 285 (by decide +kernel) rfl)
theorem lk_0_162 : lok "RegionHeap" 162 34 := Or.inl (g_in 221 (by decide +kernel) rfl)
theorem lk_0_166 : lok "RegionHeap" 166 33 := Or.inl (g_in 233 (by decide +kernel) rfl)
theorem lk_0_172 : lok "RegionHeap" 172 35 := Or.inl (g_in 225 (by decide +kernel) rfl)
theorem lk_0_176 : lok "RegionHeap" 176 6 := Or.inr ⟨"RegionHeap", n_in 273 (by decide +kernel) rfl⟩
theorem lk_0_185 : lok "RegionHeap" 185 39 := Or.inl (g_in 194 (by decide +kernel) rfl)
theorem lk_0_188 : lok "RegionHeap" 188 40 := Or.inl (g_in 205 (by decide +kernel) rfl)
theorem lk_0_204 : lok "RegionHeap" 204 41 := Or.inl (g_in 198 (by decide +kernel) rfl)
theorem lk_0_208 : lok "RegionHeap" 208 8 := Or.inr ⟨"RegionHeap", n_in 209 (by decide +kernel) rfl⟩
theorem lk_0_212 : Cond.methodLink "RegionHeap" 212 (nm 42) ∈ gd := g_in 202 (by decide +kernel) rfl
theorem lk_0_216 : lok "RegionHeap" 216 44 := Or.inl (g_in 245 (by decide +kernel) rfl)
theorem lk_0_219 : lok "RegionHeap" 219 4 := Or.inr ⟨"RegionHeap", n_in 265 (by decide +kernel) rfl⟩
theorem lk_0_222 : lok "RegionHeap" 222 7 := Or.inr ⟨"RegionHeap", n_in 261 (by decide +kernel) rfl⟩
theorem lk_0_225 : lok "RegionHeap" 225 45 := Or.inl (g_in 249 (by decide +kernel) rfl)
theorem lk_0_228 : lok "RegionHeap" 228 46 := Or.inl (g_in 253 (by decide +kernel) rfl)
theorem lk_0_234 : lok "RegionHeap" 234 49 := Or.inl (g_in 257 (by decide +kernel) rfl)
theorem lk_0_237 : lok "RegionHeap" 237 51 := Or.inl (g_in 277 (by decide +kernel) rfl)
theorem lk_0_243 : lok "RegionHeap" 243 50 := Or.inl (g_in 269 (by decide +kernel) rfl)
theorem lk_0_250 : Cond.methodLink "RegionHeap" 250 (nm 26) ∈ gd := g_in 402 (by decide +kernel) rfl
theorem fk_1_7 : fok "RegionHeap$Item" 7 1 0 := ⟨by decide, by decide, by decide, Or.inl (g_in 303 (by decide +kernel) rfl)⟩
theorem fk_1_13 : fok "RegionHeap$Item" 13 1 1 := ⟨by decide, by decide, by decide, Or.inl (g_in 305 (by decide +kernel) rfl)⟩
theorem fk_1_16 : fok "RegionHeap$Item" 16 1 2 := ⟨by decide, by decide, by decide, Or.inl (g_in 308 (by decide +kernel) rfl)⟩
theorem nk_1_8 : 4 = 4 ∧ Cond.classLink "RegionHeap$Item" 8 C_Item ∈ gd ∨ 4 = 5 ∧ Cond.classLink "RegionHeap$Item" 8 C_Region ∈ gd := Or.inl ⟨rfl, g_in 302 (by decide +kernel) rfl⟩
theorem lk_1_1 : Cond.methodLink "RegionHeap$Item" 1 Lib.objectInit ∈ gd := g_in 301 (by decide +kernel) rfl
theorem fk_2_9 : fok "RegionHeap$Region" 9 2 0 := ⟨by decide, by decide, by decide, Or.inl (g_in 79 (by decide +kernel) rfl)⟩
theorem fk_2_17 : fok "RegionHeap$Region" 17 2 1 := ⟨by decide, by decide, by decide, Or.inl (g_in 81 (by decide +kernel) rfl)⟩
theorem fk_2_21 : fok "RegionHeap$Region" 21 2 3 := ⟨by decide, by decide, by decide, Or.inl (g_in 85 (by decide +kernel) rfl)⟩
theorem fk_2_24 : fok "RegionHeap$Region" 24 2 5 := ⟨by decide, by decide, by decide, Or.inl (g_in 89 (by decide +kernel) rfl)⟩
theorem fk_2_27 : fok "RegionHeap$Region" 27 2 4 := ⟨by decide, by decide, by decide, Or.inl (g_in 87 (by decide +kernel) rfl)⟩
theorem fk_2_30 : fok "RegionHeap$Region" 30 1 3 := ⟨by decide, by decide, by decide, Or.inr ⟨"RegionHeap", n_in 310 (by decide +kernel) rfl⟩⟩
theorem fk_2_34 : fok "RegionHeap$Region" 34 1 4 := ⟨by decide, by decide, by decide, Or.inr ⟨"RegionHeap", n_in 312 (by decide +kernel) rfl⟩⟩
theorem fk_2_37 : fok "RegionHeap$Region" 37 2 2 := ⟨by decide, by decide, by decide, Or.inl (g_in 83 (by decide +kernel) rfl)⟩
theorem fk_2_40 : fok "RegionHeap$Region" 40 1 1 := ⟨by decide, by decide, by decide, Or.inr ⟨"RegionHeap", n_in 306 (by decide +kernel) rfl⟩⟩
theorem fk_2_43 : fok "RegionHeap$Region" 43 1 5 := ⟨by decide, by decide, by decide, Or.inr ⟨"RegionHeap", n_in 314 (by decide +kernel) rfl⟩⟩
theorem fk_2_47 : fok "RegionHeap$Region" 47 2 10 := ⟨by decide, by decide, by decide, Or.inl (g_in 95 (by decide +kernel) rfl)⟩
theorem fk_2_50 : fok "RegionHeap$Region" 50 2 11 := ⟨by decide, by decide, by decide, Or.inl (g_in 97 (by decide +kernel) rfl)⟩
theorem nk_2_15 : 4 = 4 ∧ Cond.classLink "RegionHeap$Region" 15 C_Item ∈ gd ∨ 4 = 5 ∧ Cond.classLink "RegionHeap$Region" 15 C_Region ∈ gd := Or.inl ⟨rfl, g_in 77 (by decide +kernel) rfl⟩
theorem lk_2_3 : Cond.methodLink "RegionHeap$Region" 3 Lib.objectInit ∈ gd := g_in 76 (by decide +kernel) rfl
theorem fk_3_7 : fok "RegionHeapModel" 7 3 0 := ⟨by decide, by decide, by decide, Or.inl (g_in 427 (by decide +kernel) rfl)⟩
theorem fk_3_13 : fok "RegionHeapModel" 13 3 1 := ⟨by decide, by decide, by decide, Or.inl (g_in 428 (by decide +kernel) rfl)⟩
theorem fk_3_16 : fok "RegionHeapModel" 16 3 2 := ⟨by decide, by decide, by decide, Or.inl (g_in 429 (by decide +kernel) rfl)⟩
theorem fk_3_19 : fok "RegionHeapModel" 19 3 3 := ⟨by decide, by decide, by decide, Or.inl (g_in 430 (by decide +kernel) rfl)⟩
theorem fk_3_22 : fok "RegionHeapModel" 22 3 4 := ⟨by decide, by decide, by decide, Or.inl (g_in 431 (by decide +kernel) rfl)⟩
theorem fk_3_25 : fok "RegionHeapModel" 25 3 5 := ⟨by decide, by decide, by decide, Or.inl (g_in 432 (by decide +kernel) rfl)⟩
theorem fk_3_28 : fok "RegionHeapModel" 28 3 6 := ⟨by decide, by decide, by decide, Or.inl (g_in 433 (by decide +kernel) rfl)⟩
theorem fk_3_31 : fok "RegionHeapModel" 31 3 7 := ⟨by decide, by decide, by decide, Or.inl (g_in 434 (by decide +kernel) rfl)⟩
theorem fk_3_34 : fok "RegionHeapModel" 34 3 8 := ⟨by decide, by decide, by decide, Or.inl (g_in 435 (by decide +kernel) rfl)⟩
theorem fk_3_37 : fok "RegionHeapModel" 37 3 9 := ⟨by decide, by decide, by decide, Or.inl (g_in 436 (by decide +kernel) rfl)⟩
theorem fk_3_40 : fok "RegionHeapModel" 40 3 10 := ⟨by decide, by decide, by decide, Or.inl (g_in 437 (by decide +kernel) rfl)⟩
theorem fk_3_43 : fok "RegionHeapModel" 43 3 11 := ⟨by decide, by decide, by decide, Or.inl (g_in 438 (by decide +kernel) rfl)⟩
theorem fk_3_47 : fok "RegionHeapModel" 47 3 12 := ⟨by decide, by decide, by decide, Or.inl (g_in 439 (by decide +kernel) rfl)⟩
theorem fk_3_50 : fok "RegionHeapModel" 50 3 13 := ⟨by decide, by decide, by decide, Or.inl (g_in 440 (by decide +kernel) rfl)⟩
theorem fk_3_54 : fok "RegionHeapModel" 54 3 14 := ⟨by decide, by decide, by decide, Or.inl (g_in 441 (by decide +kernel) rfl)⟩
theorem fk_3_57 : fok "RegionHeapModel" 57 3 16 := ⟨by decide, by decide, by decide, Or.inl (g_in 443 (by decide +kernel) rfl)⟩
theorem fk_3_60 : fok "RegionHeapModel" 60 3 17 := ⟨by decide, by decide, by decide, Or.inl (g_in 444 (by decide +kernel) rfl)⟩
theorem fk_3_63 : fok "RegionHeapModel" 63 3 18 := ⟨by decide, by decide, by decide, Or.inl (g_in 445 (by decide +kernel) rfl)⟩
theorem fk_3_66 : fok "RegionHeapModel" 66 3 19 := ⟨by decide, by decide, by decide, Or.inl (g_in 446 (by decide +kernel) rfl)⟩
theorem fk_3_69 : fok "RegionHeapModel" 69 3 20 := ⟨by decide, by decide, by decide, Or.inl (g_in 447 (by decide +kernel) rfl)⟩
theorem fk_3_72 : fok "RegionHeapModel" 72 3 21 := ⟨by decide, by decide, by decide, Or.inl (g_in 448 (by decide +kernel) rfl)⟩
theorem fk_3_75 : fok "RegionHeapModel" 75 3 23 := ⟨by decide, by decide, by decide, Or.inl (g_in 450 (by decide +kernel) rfl)⟩
theorem fk_3_78 : fok "RegionHeapModel" 78 3 24 := ⟨by decide, by decide, by decide, Or.inl (g_in 451 (by decide +kernel) rfl)⟩
theorem fk_3_96 : fok "RegionHeapModel" 96 3 22 := ⟨by decide, by decide, by decide, Or.inl (g_in 449 (by decide +kernel) rfl)⟩
theorem fk_3_100 : fok "RegionHeapModel" 100 3 15 := ⟨by decide, by decide, by decide, Or.inl (g_in 442 (by decide +kernel) rfl)⟩
theorem lk_3_1 : Cond.methodLink "RegionHeapModel" 1 Lib.objectInit ∈ gd := g_in 426 (by decide +kernel) rfl
theorem lk_3_81 : lok "RegionHeapModel" 81 64 := Or.inl (g_in 509 (by decide +kernel) rfl)
theorem lk_3_84 : lok "RegionHeapModel" 84 70 := Or.inl (g_in 521 (by decide +kernel) rfl)
theorem lk_3_88 : lok "RegionHeapModel" 88 68 := Or.inl (g_in 525 (by decide +kernel) rfl)
theorem lk_3_92 : lok "RegionHeapModel" 92 69 := Or.inl (g_in 517 (by decide +kernel) rfl)
theorem lk_3_103 : lok "RegionHeapModel" 103 72 := Or.inl (g_in 541 (by decide +kernel) rfl)
theorem lk_3_106 : lok "RegionHeapModel" 106 73 := Or.inl (g_in 545 (by decide +kernel) rfl)
theorem lk_3_109 : lok "RegionHeapModel" 109 74 := Or.inl (g_in 537 (by decide +kernel) rfl)
theorem lk_3_112 : lok "RegionHeapModel" 112 76 := Or.inl (g_in 549 (by decide +kernel) rfl)
theorem lk_3_116 : lok "RegionHeapModel" 116 66 := Or.inl (g_in 557 (by decide +kernel) rfl)
theorem lk_3_119 : lok "RegionHeapModel" 119 67 := Or.inl (g_in 565 (by decide +kernel) rfl)
theorem lk_3_123 : lok "RegionHeapModel" 123 78 := Or.inl (g_in 553 (by decide +kernel) rfl)
theorem lk_3_126 : lok "RegionHeapModel" 126 77 := Or.inl (g_in 561 (by decide +kernel) rfl)
theorem lk_3_129 : lok "RegionHeapModel" 129 75 := Or.inl (g_in 533 (by decide +kernel) rfl)
theorem lk_3_132 : lok "RegionHeapModel" 132 62 := Or.inl (g_in 577 (by decide +kernel) rfl)
theorem lk_3_136 : lok "RegionHeapModel" 136 82 := Or.inl (g_in 581 (by decide +kernel) rfl)
theorem lk_3_139 : lok "RegionHeapModel" 139 83 := Or.inl (g_in 585 (by decide +kernel) rfl)
theorem lk_3_142 : lok "RegionHeapModel" 142 81 := Or.inl (g_in 589 (by decide +kernel) rfl)
theorem lk_3_146 : lok "RegionHeapModel" 146 85 := Or.inl (g_in 597 (by decide +kernel) rfl)
theorem lk_3_149 : lok "RegionHeapModel" 149 87 := Or.inl (g_in 605 (by decide +kernel) rfl)
theorem lk_3_152 : lok "RegionHeapModel" 152 91 := Or.inl (g_in 625 (by decide +kernel) rfl)
theorem lk_3_155 : lok "RegionHeapModel" 155 63 := Or.inl (g_in 641 (by decide +kernel) rfl)
theorem nk_4_7 : nok "RegionHeapLaw" 7 0 := ⟨by decide, g_in 62 (by decide +kernel) rfl, g_in 63 (by decide +kernel) rfl, g_in 57 (by decide +kernel) rfl⟩
theorem nk_4_10 : nok "RegionHeapLaw" 10 3 := ⟨by decide, g_in 421 (by decide +kernel) rfl, g_in 422 (by decide +kernel) rfl, g_in 59 (by decide +kernel) rfl⟩
theorem lk_4_9 : lok "RegionHeapLaw" 9 9 := Or.inl (g_in 64 (by decide +kernel) rfl)
theorem lk_4_12 : lok "RegionHeapLaw" 12 61 := Or.inl (g_in 423 (by decide +kernel) rfl)
theorem lk_4_13 : lok "RegionHeapLaw" 13 10 := Or.inl (g_in 156 (by decide +kernel) rfl)
theorem lk_4_17 : lok "RegionHeapLaw" 17 84 := Or.inl (g_in 573 (by decide +kernel) rfl)
theorem lk_4_18 : lok "RegionHeapLaw" 18 11 := Or.inl (g_in 332 (by decide +kernel) rfl)
theorem lk_4_21 : lok "RegionHeapLaw" 21 86 := Or.inl (g_in 593 (by decide +kernel) rfl)
theorem lk_4_22 : lok "RegionHeapLaw" 22 19 := Or.inl (g_in 343 (by decide +kernel) rfl)
theorem lk_4_26 : lok "RegionHeapLaw" 26 88 := Or.inl (g_in 601 (by decide +kernel) rfl)
theorem lk_4_27 : lok "RegionHeapLaw" 27 20 := Or.inl (g_in 358 (by decide +kernel) rfl)
theorem lk_4_30 : lok "RegionHeapLaw" 30 89 := Or.inl (g_in 609 (by decide +kernel) rfl)
theorem lk_4_31 : lok "RegionHeapLaw" 31 21 := Or.inl (g_in 362 (by decide +kernel) rfl)
theorem lk_4_35 : lok "RegionHeapLaw" 35 90 := Or.inl (g_in 613 (by decide +kernel) rfl)
theorem lk_4_36 : lok "RegionHeapLaw" 36 27 := Or.inl (g_in 366 (by decide +kernel) rfl)
theorem lk_4_40 : lok "RegionHeapLaw" 40 79 := Or.inl (g_in 529 (by decide +kernel) rfl)
theorem lk_4_41 : lok "RegionHeapLaw" 41 47 := Or.inl (g_in 378 (by decide +kernel) rfl)
theorem lk_4_45 : lok "RegionHeapLaw" 45 80 := Or.inl (g_in 569 (by decide +kernel) rfl)
theorem lk_4_46 : lok "RegionHeapLaw" 46 43 := Or.inl (g_in 374 (by decide +kernel) rfl)
theorem lk_4_49 : lok "RegionHeapLaw" 49 65 := Or.inl (g_in 505 (by decide +kernel) rfl)
theorem lk_4_50 : lok "RegionHeapLaw" 50 37 := Or.inl (g_in 370 (by decide +kernel) rfl)
theorem lk_4_53 : lok "RegionHeapLaw" 53 71 := Or.inl (g_in 513 (by decide +kernel) rfl)
theorem lk_4_54 : lok "RegionHeapLaw" 54 52 := Or.inl (g_in 382 (by decide +kernel) rfl)
theorem lk_4_57 : lok "RegionHeapLaw" 57 92 := Or.inl (g_in 617 (by decide +kernel) rfl)
theorem lk_4_58 : lok "RegionHeapLaw" 58 53 := Or.inl (g_in 386 (by decide +kernel) rfl)
theorem lk_4_61 : lok "RegionHeapLaw" 61 93 := Or.inl (g_in 621 (by decide +kernel) rfl)
theorem lk_4_62 : lok "RegionHeapLaw" 62 54 := Or.inl (g_in 390 (by decide +kernel) rfl)
theorem lk_4_65 : lok "RegionHeapLaw" 65 94 := Or.inl (g_in 629 (by decide +kernel) rfl)
theorem lk_4_66 : lok "RegionHeapLaw" 66 55 := Or.inl (g_in 394 (by decide +kernel) rfl)
theorem lk_4_69 : lok "RegionHeapLaw" 69 95 := Or.inl (g_in 633 (by decide +kernel) rfl)
theorem lk_4_70 : lok "RegionHeapLaw" 70 56 := Or.inl (g_in 398 (by decide +kernel) rfl)
theorem lk_4_73 : lok "RegionHeapLaw" 73 96 := Or.inl (g_in 637 (by decide +kernel) rfl)
theorem lk_4_74 : lok "RegionHeapLaw" 74 57 := Or.inl (g_in 405 (by decide +kernel) rfl)
theorem lk_4_77 : lok "RegionHeapLaw" 77 97 := Or.inl (g_in 645 (by decide +kernel) rfl)
theorem lk_4_78 : lok "RegionHeapLaw" 78 58 := Or.inl (g_in 409 (by decide +kernel) rfl)
theorem lk_4_81 : lok "RegionHeapLaw" 81 98 := Or.inl (g_in 649 (by decide +kernel) rfl)
theorem lk_4_82 : lok "RegionHeapLaw" 82 59 := Or.inl (g_in 413 (by decide +kernel) rfl)
theorem lk_4_85 : lok "RegionHeapLaw" 85 99 := Or.inl (g_in 653 (by decide +kernel) rfl)
theorem lk_4_86 : lok "RegionHeapLaw" 86 60 := Or.inl (g_in 417 (by decide +kernel) rfl)
theorem lk_4_89 : lok "RegionHeapLaw" 89 100 := Or.inl (g_in 657 (by decide +kernel) rfl)
set_option maxRecDepth 100000 in
theorem mk_0 : mkr 0 := ⟨g_in 300 rfl rfl, by decide +kernel, by decide +kernel, by decide +kernel, g_in 60 (by decide +kernel) rfl⟩
theorem mv_0 : rt 0 = none ∧ (nm 0).name = "<init>" ∧ Cond.instanceMethod (nm 0) ∈ gd := ⟨rfl, rfl, g_in 299 (by decide +kernel) rfl⟩
theorem fn_0_7 : fnok 0 7 1 0 := ⟨rfl, rfl, rfl, g_in 303 (by decide +kernel) rfl⟩
theorem fn_0_13 : fnok 0 13 1 1 := ⟨rfl, rfl, rfl, g_in 305 (by decide +kernel) rfl⟩
theorem fn_0_16 : fnok 0 16 1 2 := ⟨rfl, rfl, rfl, g_in 308 (by decide +kernel) rfl⟩
set_option maxRecDepth 100000 in
theorem mk_1 : mkr 1 := ⟨g_in 354 rfl rfl, by decide +kernel, by decide +kernel, by decide +kernel, g_in 60 (by decide +kernel) rfl⟩
theorem mv_1 : 1 < 4 ∧ (cT 1).1 = (nm 1).cls ∧ Cond.instanceMethod (nm 1) ∈ gd ∧ Cond.selects (nm 1).cls (nm 1) (nm 1) ∈ gd := ⟨by decide, rfl, g_in 353 (by decide +kernel) rfl, g_in 34 (by decide +kernel) rfl⟩
set_option maxRecDepth 100000 in
theorem mk_2 : mkr 2 := ⟨g_in 75 rfl rfl, by decide +kernel, by decide +kernel, by decide +kernel, g_in 58 (by decide +kernel) rfl⟩
theorem mv_2 : rt 2 = none ∧ (nm 2).name = "<init>" ∧ Cond.instanceMethod (nm 2) ∈ gd := ⟨rfl, rfl, g_in 74 (by decide +kernel) rfl⟩
theorem fn_2_9 : fnok 2 9 2 0 := ⟨rfl, rfl, rfl, g_in 79 (by decide +kernel) rfl⟩
theorem fn_2_17 : fnok 2 17 2 1 := ⟨rfl, rfl, rfl, g_in 81 (by decide +kernel) rfl⟩
set_option maxRecDepth 100000 in
theorem mk_3 : mkr 3 := ⟨g_in 177 rfl rfl, by decide +kernel, by decide +kernel, by decide +kernel, g_in 58 (by decide +kernel) rfl⟩
theorem mv_3 : 2 < 4 ∧ (cT 2).1 = (nm 3).cls ∧ Cond.instanceMethod (nm 3) ∈ gd ∧ Cond.selects (nm 3).cls (nm 3) (nm 3) ∈ gd := ⟨by decide, rfl, g_in 176 (by decide +kernel) rfl, g_in 2 (by decide +kernel) rfl⟩
set_option maxRecDepth 100000 in
theorem mk_4 : mkr 4 := ⟨g_in 268 rfl rfl, by decide +kernel, by decide +kernel, by decide +kernel, g_in 58 (by decide +kernel) rfl⟩
theorem mv_4 : 2 < 4 ∧ (cT 2).1 = (nm 4).cls ∧ Cond.instanceMethod (nm 4) ∈ gd ∧ Cond.selects (nm 4).cls (nm 4) (nm 4) ∈ gd := ⟨by decide, rfl, g_in 267 (by decide +kernel) rfl, g_in 24 (by decide +kernel) rfl⟩
set_option maxRecDepth 100000 in
theorem mk_5 : mkr 5 := ⟨g_in 284 rfl rfl, by decide +kernel, by decide +kernel, by decide +kernel, g_in 58 (by decide +kernel) rfl⟩
theorem mv_5 : 2 < 4 ∧ (cT 2).1 = (nm 5).cls ∧ Cond.instanceMethod (nm 5) ∈ gd ∧ Cond.selects (nm 5).cls (nm 5) (nm 5) ∈ gd := ⟨by decide, rfl, g_in 283 (by decide +kernel) rfl, g_in 28 (by decide +kernel) rfl⟩
set_option maxRecDepth 100000 in
theorem mk_6 : mkr 6 := ⟨g_in 276 rfl rfl, by decide +kernel, by decide +kernel, by decide +kernel, g_in 58 (by decide +kernel) rfl⟩
theorem mv_6 : 2 < 4 ∧ (cT 2).1 = (nm 6).cls ∧ Cond.instanceMethod (nm 6) ∈ gd ∧ Cond.selects (nm 6).cls (nm 6) (nm 6) ∈ gd := ⟨by decide, rfl, g_in 275 (by decide +kernel) rfl, g_in 26 (by decide +kernel) rfl⟩
set_option maxRecDepth 100000 in
theorem mk_7 : mkr 7 := ⟨g_in 264 rfl rfl, by decide +kernel, by decide +kernel, by decide +kernel, g_in 58 (by decide +kernel) rfl⟩
theorem mv_7 : 2 < 4 ∧ (cT 2).1 = (nm 7).cls ∧ Cond.instanceMethod (nm 7) ∈ gd ∧ Cond.selects (nm 7).cls (nm 7) (nm 7) ∈ gd := ⟨by decide, rfl, g_in 263 (by decide +kernel) rfl, g_in 23 (by decide +kernel) rfl⟩
set_option maxRecDepth 100000 in
theorem mk_8 : mkr 8 := ⟨g_in 212 rfl rfl, by decide +kernel, by decide +kernel, by decide +kernel, g_in 58 (by decide +kernel) rfl⟩
theorem mv_8 : 2 < 4 ∧ (cT 2).1 = (nm 8).cls ∧ Cond.instanceMethod (nm 8) ∈ gd ∧ Cond.selects (nm 8).cls (nm 8) (nm 8) ∈ gd := ⟨by decide, rfl, g_in 211 (by decide +kernel) rfl, g_in 10 (by decide +kernel) rfl⟩
set_option maxRecDepth 100000 in
theorem mk_9 : mkr 9 := ⟨g_in 66 rfl rfl, by decide +kernel, by decide +kernel, by decide +kernel, g_in 57 (by decide +kernel) rfl⟩
theorem mv_9 : rt 9 = none ∧ (nm 9).name = "<init>" ∧ Cond.instanceMethod (nm 9) ∈ gd := ⟨rfl, rfl, g_in 65 (by decide +kernel) rfl⟩
theorem fn_9_11 : fnok 9 11 0 0 := ⟨rfl, rfl, rfl, g_in 125 (by decide +kernel) rfl⟩
theorem fn_9_20 : fnok 9 20 0 1 := ⟨rfl, rfl, rfl, g_in 126 (by decide +kernel) rfl⟩
theorem fn_9_24 : fnok 9 24 0 2 := ⟨rfl, rfl, rfl, g_in 127 (by decide +kernel) rfl⟩
theorem fn_9_27 : fnok 9 27 0 4 := ⟨rfl, rfl, rfl, g_in 129 (by decide +kernel) rfl⟩
set_option maxRecDepth 100000 in
theorem mk_10 : mkr 10 := ⟨g_in 159 rfl rfl, by decide +kernel, by decide +kernel, by decide +kernel, g_in 57 (by decide +kernel) rfl⟩
theorem mv_10 : 0 < 4 ∧ (cT 0).1 = (nm 10).cls ∧ Cond.instanceMethod (nm 10) ∈ gd ∧ Cond.selects (nm 10).cls (nm 10) (nm 10) ∈ gd := ⟨by decide, rfl, g_in 157 (by decide +kernel) rfl, g_in 158 (by decide +kernel) rfl⟩
set_option maxRecDepth 100000 in
theorem mk_11 : mkr 11 := ⟨g_in 335 rfl rfl, by decide +kernel, by decide +kernel, by decide +kernel, g_in 57 (by decide +kernel) rfl⟩
theorem mv_11 : 0 < 4 ∧ (cT 0).1 = (nm 11).cls ∧ Cond.instanceMethod (nm 11) ∈ gd ∧ Cond.selects (nm 11).cls (nm 11) (nm 11) ∈ gd := ⟨by decide, rfl, g_in 333 (by decide +kernel) rfl, g_in 334 (by decide +kernel) rfl⟩
set_option maxRecDepth 100000 in
theorem mk_12 : mkr 12 := ⟨g_in 296 rfl rfl, by decide +kernel, by decide +kernel, by decide +kernel, g_in 57 (by decide +kernel) rfl⟩
theorem mv_12 : 0 < 4 ∧ (cT 0).1 = (nm 12).cls ∧ Cond.instanceMethod (nm 12) ∈ gd ∧ Cond.selects (nm 12).cls (nm 12) (nm 12) ∈ gd := ⟨by decide, rfl, g_in 295 (by decide +kernel) rfl, g_in 31 (by decide +kernel) rfl⟩
set_option maxRecDepth 100000 in
theorem mk_13 : mkr 13 := ⟨g_in 169 rfl rfl, by decide +kernel, by decide +kernel, by decide +kernel, g_in 57 (by decide +kernel) rfl⟩
theorem mv_13 : 0 < 4 ∧ (cT 0).1 = (nm 13).cls ∧ Cond.instanceMethod (nm 13) ∈ gd ∧ Cond.selects (nm 13).cls (nm 13) (nm 13) ∈ gd := ⟨by decide, rfl, g_in 168 (by decide +kernel) rfl, g_in 0 (by decide +kernel) rfl⟩
set_option maxRecDepth 100000 in
theorem mk_14 : mkr 14 := ⟨g_in 173 rfl rfl, by decide +kernel, by decide +kernel, by decide +kernel, g_in 57 (by decide +kernel) rfl⟩
theorem mv_14 : 0 < 4 ∧ (cT 0).1 = (nm 14).cls ∧ Cond.instanceMethod (nm 14) ∈ gd ∧ Cond.selects (nm 14).cls (nm 14) (nm 14) ∈ gd := ⟨by decide, rfl, g_in 172 (by decide +kernel) rfl, g_in 1 (by decide +kernel) rfl⟩
set_option maxRecDepth 100000 in
theorem mk_15 : mkr 15 := ⟨g_in 185 rfl rfl, by decide +kernel, by decide +kernel, by decide +kernel, g_in 57 (by decide +kernel) rfl⟩
theorem mv_15 : 0 < 4 ∧ (cT 0).1 = (nm 15).cls ∧ Cond.instanceMethod (nm 15) ∈ gd ∧ Cond.selects (nm 15).cls (nm 15) (nm 15) ∈ gd := ⟨by decide, rfl, g_in 184 (by decide +kernel) rfl, g_in 4 (by decide +kernel) rfl⟩
set_option maxRecDepth 100000 in
theorem mk_16 : mkr 16 := ⟨g_in 292 rfl rfl, by decide +kernel, by decide +kernel, by decide +kernel, g_in 57 (by decide +kernel) rfl⟩
theorem mv_16 : 0 < 4 ∧ (cT 0).1 = (nm 16).cls ∧ Cond.instanceMethod (nm 16) ∈ gd ∧ Cond.selects (nm 16).cls (nm 16) (nm 16) ∈ gd := ⟨by decide, rfl, g_in 291 (by decide +kernel) rfl, g_in 30 (by decide +kernel) rfl⟩
set_option maxRecDepth 100000 in
theorem mk_17 : mkr 17 := ⟨g_in 181 rfl rfl, by decide +kernel, by decide +kernel, by decide +kernel, g_in 57 (by decide +kernel) rfl⟩
theorem mv_17 : 0 < 4 ∧ (cT 0).1 = (nm 17).cls ∧ Cond.instanceMethod (nm 17) ∈ gd ∧ Cond.selects (nm 17).cls (nm 17) (nm 17) ∈ gd := ⟨by decide, rfl, g_in 180 (by decide +kernel) rfl, g_in 3 (by decide +kernel) rfl⟩
set_option maxRecDepth 100000 in
theorem mk_18 : mkr 18 := ⟨g_in 339 rfl rfl, by decide +kernel, by decide +kernel, by decide +kernel, g_in 57 (by decide +kernel) rfl⟩
theorem mv_18 : 0 < 4 ∧ (cT 0).1 = (nm 18).cls ∧ Cond.instanceMethod (nm 18) ∈ gd ∧ Cond.selects (nm 18).cls (nm 18) (nm 18) ∈ gd := ⟨by decide, rfl, g_in 338 (by decide +kernel) rfl, g_in 32 (by decide +kernel) rfl⟩
set_option maxRecDepth 100000 in
theorem mk_19 : mkr 19 := ⟨g_in 346 rfl rfl, by decide +kernel, by decide +kernel, by decide +kernel, g_in 57 (by decide +kernel) rfl⟩
theorem mv_19 : 0 < 4 ∧ (cT 0).1 = (nm 19).cls ∧ Cond.instanceMethod (nm 19) ∈ gd ∧ Cond.selects (nm 19).cls (nm 19) (nm 19) ∈ gd := ⟨by decide, rfl, g_in 344 (by decide +kernel) rfl, g_in 345 (by decide +kernel) rfl⟩
set_option maxRecDepth 100000 in
theorem mk_20 : mkr 20 := ⟨g_in 361 rfl rfl, by decide +kernel, by decide +kernel, by decide +kernel, g_in 57 (by decide +kernel) rfl⟩
theorem mv_20 : 0 < 4 ∧ (cT 0).1 = (nm 20).cls ∧ Cond.instanceMethod (nm 20) ∈ gd ∧ Cond.selects (nm 20).cls (nm 20) (nm 20) ∈ gd := ⟨by decide, rfl, g_in 359 (by decide +kernel) rfl, g_in 360 (by decide +kernel) rfl⟩
set_option maxRecDepth 100000 in
theorem mk_21 : mkr 21 := ⟨g_in 365 rfl rfl, by decide +kernel, by decide +kernel, by decide +kernel, g_in 57 (by decide +kernel) rfl⟩
theorem mv_21 : 0 < 4 ∧ (cT 0).1 = (nm 21).cls ∧ Cond.instanceMethod (nm 21) ∈ gd ∧ Cond.selects (nm 21).cls (nm 21) (nm 21) ∈ gd := ⟨by decide, rfl, g_in 363 (by decide +kernel) rfl, g_in 364 (by decide +kernel) rfl⟩
set_option maxRecDepth 100000 in
theorem mk_22 : mkr 22 := ⟨g_in 350 rfl rfl, by decide +kernel, by decide +kernel, by decide +kernel, g_in 57 (by decide +kernel) rfl⟩
theorem mv_22 : 0 < 4 ∧ (cT 0).1 = (nm 22).cls ∧ Cond.instanceMethod (nm 22) ∈ gd ∧ Cond.selects (nm 22).cls (nm 22) (nm 22) ∈ gd := ⟨by decide, rfl, g_in 349 (by decide +kernel) rfl, g_in 33 (by decide +kernel) rfl⟩
set_option maxRecDepth 100000 in
theorem mk_23 : mkr 23 := ⟨g_in 162 rfl rfl, by decide +kernel, by decide +kernel, by decide +kernel, g_in 57 (by decide +kernel) rfl⟩
theorem mv_23 : (nm 23).cls = "RegionHeap" ∧ Cond.static (nm 23) ∈ gd := ⟨rfl, g_in 161 (by decide +kernel) rfl⟩
set_option maxRecDepth 100000 in
theorem mk_24 : mkr 24 := ⟨g_in 357 rfl rfl, by decide +kernel, by decide +kernel, by decide +kernel, g_in 57 (by decide +kernel) rfl⟩
theorem mv_24 : (nm 24).cls = "RegionHeap" ∧ Cond.static (nm 24) ∈ gd := ⟨rfl, g_in 356 (by decide +kernel) rfl⟩
set_option maxRecDepth 100000 in
theorem mk_25 : mkr 25 := ⟨g_in 165 rfl rfl, by decide +kernel, by decide +kernel, by decide +kernel, g_in 57 (by decide +kernel) rfl⟩
theorem mv_25 : (nm 25).cls = "RegionHeap" ∧ Cond.static (nm 25) ∈ gd := ⟨rfl, g_in 164 (by decide +kernel) rfl⟩
set_option maxRecDepth 100000 in
theorem mk_26 : mkr 26 := ⟨g_in 404 rfl rfl, by decide +kernel, by decide +kernel, by decide +kernel, g_in 57 (by decide +kernel) rfl⟩
theorem mv_26 : (nm 26).cls = "RegionHeap" ∧ Cond.static (nm 26) ∈ gd := ⟨rfl, g_in 403 (by decide +kernel) rfl⟩
set_option maxRecDepth 100000 in
theorem mk_27 : mkr 27 := ⟨g_in 369 rfl rfl, by decide +kernel, by decide +kernel, by decide +kernel, g_in 57 (by decide +kernel) rfl⟩
theorem mv_27 : 0 < 4 ∧ (cT 0).1 = (nm 27).cls ∧ Cond.instanceMethod (nm 27) ∈ gd ∧ Cond.selects (nm 27).cls (nm 27) (nm 27) ∈ gd := ⟨by decide, rfl, g_in 367 (by decide +kernel) rfl, g_in 368 (by decide +kernel) rfl⟩
set_option maxRecDepth 100000 in
theorem mk_28 : mkr 28 := ⟨g_in 189 rfl rfl, by decide +kernel, by decide +kernel, by decide +kernel, g_in 57 (by decide +kernel) rfl⟩
theorem mv_28 : 0 < 4 ∧ (cT 0).1 = (nm 28).cls ∧ Cond.instanceMethod (nm 28) ∈ gd ∧ Cond.selects (nm 28).cls (nm 28) (nm 28) ∈ gd := ⟨by decide, rfl, g_in 188 (by decide +kernel) rfl, g_in 5 (by decide +kernel) rfl⟩
set_option maxRecDepth 100000 in
theorem mk_29 : mkr 29 := ⟨g_in 216 rfl rfl, by decide +kernel, by decide +kernel, by decide +kernel, g_in 57 (by decide +kernel) rfl⟩
theorem mv_29 : 0 < 4 ∧ (cT 0).1 = (nm 29).cls ∧ Cond.instanceMethod (nm 29) ∈ gd ∧ Cond.selects (nm 29).cls (nm 29) (nm 29) ∈ gd := ⟨by decide, rfl, g_in 215 (by decide +kernel) rfl, g_in 11 (by decide +kernel) rfl⟩
set_option maxRecDepth 100000 in
theorem mk_30 : mkr 30 := ⟨g_in 220 rfl rfl, by decide +kernel, by decide +kernel, by decide +kernel, g_in 57 (by decide +kernel) rfl⟩
theorem mv_30 : 0 < 4 ∧ (cT 0).1 = (nm 30).cls ∧ Cond.instanceMethod (nm 30) ∈ gd ∧ Cond.selects (nm 30).cls (nm 30) (nm 30) ∈ gd := ⟨by decide, rfl, g_in 219 (by decide +kernel) rfl, g_in 12 (by decide +kernel) rfl⟩
set_option maxRecDepth 100000 in
theorem mk_31 : mkr 31 := ⟨g_in 232 rfl rfl, by decide +kernel, by decide +kernel, by decide +kernel, g_in 57 (by decide +kernel) rfl⟩
theorem mv_31 : 0 < 4 ∧ (cT 0).1 = (nm 31).cls ∧ Cond.instanceMethod (nm 31) ∈ gd ∧ Cond.selects (nm 31).cls (nm 31) (nm 31) ∈ gd := ⟨by decide, rfl, g_in 231 (by decide +kernel) rfl, g_in 15 (by decide +kernel) rfl⟩
set_option maxRecDepth 100000 in
theorem mk_32 : mkr 32 := ⟨g_in 240 rfl rfl, by decide +kernel, by decide +kernel, by decide +kernel, g_in 57 (by decide +kernel) rfl⟩
theorem mv_32 : 0 < 4 ∧ (cT 0).1 = (nm 32).cls ∧ Cond.instanceMethod (nm 32) ∈ gd ∧ Cond.selects (nm 32).cls (nm 32) (nm 32) ∈ gd := ⟨by decide, rfl, g_in 239 (by decide +kernel) rfl, g_in 17 (by decide +kernel) rfl⟩
set_option maxRecDepth 100000 in
theorem mk_33 : mkr 33 := ⟨g_in 236 rfl rfl, by decide +kernel, by decide +kernel, by decide +kernel, g_in 57 (by decide +kernel) rfl⟩
theorem mv_33 : 0 < 4 ∧ (cT 0).1 = (nm 33).cls ∧ Cond.instanceMethod (nm 33) ∈ gd ∧ Cond.selects (nm 33).cls (nm 33) (nm 33) ∈ gd := ⟨by decide, rfl, g_in 235 (by decide +kernel) rfl, g_in 16 (by decide +kernel) rfl⟩
set_option maxRecDepth 100000 in
theorem mk_34 : mkr 34 := ⟨g_in 224 rfl rfl, by decide +kernel, by decide +kernel, by decide +kernel, g_in 57 (by decide +kernel) rfl⟩
theorem mv_34 : 0 < 4 ∧ (cT 0).1 = (nm 34).cls ∧ Cond.instanceMethod (nm 34) ∈ gd ∧ Cond.selects (nm 34).cls (nm 34) (nm 34) ∈ gd := ⟨by decide, rfl, g_in 223 (by decide +kernel) rfl, g_in 13 (by decide +kernel) rfl⟩
set_option maxRecDepth 100000 in
theorem mk_35 : mkr 35 := ⟨g_in 228 rfl rfl, by decide +kernel, by decide +kernel, by decide +kernel, g_in 57 (by decide +kernel) rfl⟩
theorem mv_35 : 0 < 4 ∧ (cT 0).1 = (nm 35).cls ∧ Cond.instanceMethod (nm 35) ∈ gd ∧ Cond.selects (nm 35).cls (nm 35) (nm 35) ∈ gd := ⟨by decide, rfl, g_in 227 (by decide +kernel) rfl, g_in 14 (by decide +kernel) rfl⟩
set_option maxRecDepth 100000 in
theorem mk_36 : mkr 36 := ⟨g_in 288 rfl rfl, by decide +kernel, by decide +kernel, by decide +kernel, g_in 57 (by decide +kernel) rfl⟩
theorem mv_36 : 0 < 4 ∧ (cT 0).1 = (nm 36).cls ∧ Cond.instanceMethod (nm 36) ∈ gd ∧ Cond.selects (nm 36).cls (nm 36) (nm 36) ∈ gd := ⟨by decide, rfl, g_in 287 (by decide +kernel) rfl, g_in 29 (by decide +kernel) rfl⟩
set_option maxRecDepth 100000 in
theorem mk_37 : mkr 37 := ⟨g_in 373 rfl rfl, by decide +kernel, by decide +kernel, by decide +kernel, g_in 57 (by decide +kernel) rfl⟩
theorem mv_37 : 0 < 4 ∧ (cT 0).1 = (nm 37).cls ∧ Cond.instanceMethod (nm 37) ∈ gd ∧ Cond.selects (nm 37).cls (nm 37) (nm 37) ∈ gd := ⟨by decide, rfl, g_in 371 (by decide +kernel) rfl, g_in 372 (by decide +kernel) rfl⟩
set_option maxRecDepth 100000 in
theorem mk_38 : mkr 38 := ⟨g_in 193 rfl rfl, by decide +kernel, by decide +kernel, by decide +kernel, g_in 57 (by decide +kernel) rfl⟩
theorem mv_38 : 0 < 4 ∧ (cT 0).1 = (nm 38).cls ∧ Cond.instanceMethod (nm 38) ∈ gd ∧ Cond.selects (nm 38).cls (nm 38) (nm 38) ∈ gd := ⟨by decide, rfl, g_in 192 (by decide +kernel) rfl, g_in 6 (by decide +kernel) rfl⟩
set_option maxRecDepth 100000 in
theorem mk_39 : mkr 39 := ⟨g_in 197 rfl rfl, by decide +kernel, by decide +kernel, by decide +kernel, g_in 57 (by decide +kernel) rfl⟩
theorem mv_39 : 0 < 4 ∧ (cT 0).1 = (nm 39).cls ∧ Cond.instanceMethod (nm 39) ∈ gd ∧ Cond.selects (nm 39).cls (nm 39) (nm 39) ∈ gd := ⟨by decide, rfl, g_in 196 (by decide +kernel) rfl, g_in 7 (by decide +kernel) rfl⟩
set_option maxRecDepth 100000 in
theorem mk_40 : mkr 40 := ⟨g_in 208 rfl rfl, by decide +kernel, by decide +kernel, by decide +kernel, g_in 57 (by decide +kernel) rfl⟩
theorem mv_40 : 0 < 4 ∧ (cT 0).1 = (nm 40).cls ∧ Cond.instanceMethod (nm 40) ∈ gd ∧ Cond.selects (nm 40).cls (nm 40) (nm 40) ∈ gd := ⟨by decide, rfl, g_in 207 (by decide +kernel) rfl, g_in 9 (by decide +kernel) rfl⟩
set_option maxRecDepth 100000 in
theorem mk_41 : mkr 41 := ⟨g_in 201 rfl rfl, by decide +kernel, by decide +kernel, by decide +kernel, g_in 57 (by decide +kernel) rfl⟩
theorem mv_41 : 0 < 4 ∧ (cT 0).1 = (nm 41).cls ∧ Cond.instanceMethod (nm 41) ∈ gd ∧ Cond.selects (nm 41).cls (nm 41) (nm 41) ∈ gd := ⟨by decide, rfl, g_in 200 (by decide +kernel) rfl, g_in 8 (by decide +kernel) rfl⟩
set_option maxRecDepth 100000 in
theorem mk_42 : mkr 42 := ⟨g_in 204 rfl rfl, by decide +kernel, by decide +kernel, by decide +kernel, g_in 57 (by decide +kernel) rfl⟩
theorem mv_42 : (nm 42).cls = "RegionHeap" ∧ Cond.static (nm 42) ∈ gd := ⟨rfl, g_in 203 (by decide +kernel) rfl⟩
set_option maxRecDepth 100000 in
theorem mk_43 : mkr 43 := ⟨g_in 377 rfl rfl, by decide +kernel, by decide +kernel, by decide +kernel, g_in 57 (by decide +kernel) rfl⟩
theorem mv_43 : 0 < 4 ∧ (cT 0).1 = (nm 43).cls ∧ Cond.instanceMethod (nm 43) ∈ gd ∧ Cond.selects (nm 43).cls (nm 43) (nm 43) ∈ gd := ⟨by decide, rfl, g_in 375 (by decide +kernel) rfl, g_in 376 (by decide +kernel) rfl⟩
set_option maxRecDepth 100000 in
theorem mk_44 : mkr 44 := ⟨g_in 248 rfl rfl, by decide +kernel, by decide +kernel, by decide +kernel, g_in 57 (by decide +kernel) rfl⟩
theorem mv_44 : 0 < 4 ∧ (cT 0).1 = (nm 44).cls ∧ Cond.instanceMethod (nm 44) ∈ gd ∧ Cond.selects (nm 44).cls (nm 44) (nm 44) ∈ gd := ⟨by decide, rfl, g_in 247 (by decide +kernel) rfl, g_in 19 (by decide +kernel) rfl⟩
set_option maxRecDepth 100000 in
theorem mk_45 : mkr 45 := ⟨g_in 252 rfl rfl, by decide +kernel, by decide +kernel, by decide +kernel, g_in 57 (by decide +kernel) rfl⟩
theorem mv_45 : 0 < 4 ∧ (cT 0).1 = (nm 45).cls ∧ Cond.instanceMethod (nm 45) ∈ gd ∧ Cond.selects (nm 45).cls (nm 45) (nm 45) ∈ gd := ⟨by decide, rfl, g_in 251 (by decide +kernel) rfl, g_in 20 (by decide +kernel) rfl⟩
set_option maxRecDepth 100000 in
theorem mk_46 : mkr 46 := ⟨g_in 256 rfl rfl, by decide +kernel, by decide +kernel, by decide +kernel, g_in 57 (by decide +kernel) rfl⟩
theorem mv_46 : 0 < 4 ∧ (cT 0).1 = (nm 46).cls ∧ Cond.instanceMethod (nm 46) ∈ gd ∧ Cond.selects (nm 46).cls (nm 46) (nm 46) ∈ gd := ⟨by decide, rfl, g_in 255 (by decide +kernel) rfl, g_in 21 (by decide +kernel) rfl⟩
set_option maxRecDepth 100000 in
theorem mk_47 : mkr 47 := ⟨g_in 381 rfl rfl, by decide +kernel, by decide +kernel, by decide +kernel, g_in 57 (by decide +kernel) rfl⟩
theorem mv_47 : 0 < 4 ∧ (cT 0).1 = (nm 47).cls ∧ Cond.instanceMethod (nm 47) ∈ gd ∧ Cond.selects (nm 47).cls (nm 47) (nm 47) ∈ gd := ⟨by decide, rfl, g_in 379 (by decide +kernel) rfl, g_in 380 (by decide +kernel) rfl⟩
set_option maxRecDepth 100000 in
theorem mk_48 : mkr 48 := ⟨g_in 244 rfl rfl, by decide +kernel, by decide +kernel, by decide +kernel, g_in 57 (by decide +kernel) rfl⟩
theorem mv_48 : 0 < 4 ∧ (cT 0).1 = (nm 48).cls ∧ Cond.instanceMethod (nm 48) ∈ gd ∧ Cond.selects (nm 48).cls (nm 48) (nm 48) ∈ gd := ⟨by decide, rfl, g_in 243 (by decide +kernel) rfl, g_in 18 (by decide +kernel) rfl⟩
set_option maxRecDepth 100000 in
theorem mk_49 : mkr 49 := ⟨g_in 260 rfl rfl, by decide +kernel, by decide +kernel, by decide +kernel, g_in 57 (by decide +kernel) rfl⟩
theorem mv_49 : 0 < 4 ∧ (cT 0).1 = (nm 49).cls ∧ Cond.instanceMethod (nm 49) ∈ gd ∧ Cond.selects (nm 49).cls (nm 49) (nm 49) ∈ gd := ⟨by decide, rfl, g_in 259 (by decide +kernel) rfl, g_in 22 (by decide +kernel) rfl⟩
set_option maxRecDepth 100000 in
theorem mk_50 : mkr 50 := ⟨g_in 272 rfl rfl, by decide +kernel, by decide +kernel, by decide +kernel, g_in 57 (by decide +kernel) rfl⟩
theorem mv_50 : 0 < 4 ∧ (cT 0).1 = (nm 50).cls ∧ Cond.instanceMethod (nm 50) ∈ gd ∧ Cond.selects (nm 50).cls (nm 50) (nm 50) ∈ gd := ⟨by decide, rfl, g_in 271 (by decide +kernel) rfl, g_in 25 (by decide +kernel) rfl⟩
set_option maxRecDepth 100000 in
theorem mk_51 : mkr 51 := ⟨g_in 280 rfl rfl, by decide +kernel, by decide +kernel, by decide +kernel, g_in 57 (by decide +kernel) rfl⟩
theorem mv_51 : 0 < 4 ∧ (cT 0).1 = (nm 51).cls ∧ Cond.instanceMethod (nm 51) ∈ gd ∧ Cond.selects (nm 51).cls (nm 51) (nm 51) ∈ gd := ⟨by decide, rfl, g_in 279 (by decide +kernel) rfl, g_in 27 (by decide +kernel) rfl⟩
set_option maxRecDepth 100000 in
theorem mk_52 : mkr 52 := ⟨g_in 385 rfl rfl, by decide +kernel, by decide +kernel, by decide +kernel, g_in 57 (by decide +kernel) rfl⟩
theorem mv_52 : 0 < 4 ∧ (cT 0).1 = (nm 52).cls ∧ Cond.instanceMethod (nm 52) ∈ gd ∧ Cond.selects (nm 52).cls (nm 52) (nm 52) ∈ gd := ⟨by decide, rfl, g_in 383 (by decide +kernel) rfl, g_in 384 (by decide +kernel) rfl⟩
set_option maxRecDepth 100000 in
theorem mk_53 : mkr 53 := ⟨g_in 389 rfl rfl, by decide +kernel, by decide +kernel, by decide +kernel, g_in 57 (by decide +kernel) rfl⟩
theorem mv_53 : 0 < 4 ∧ (cT 0).1 = (nm 53).cls ∧ Cond.instanceMethod (nm 53) ∈ gd ∧ Cond.selects (nm 53).cls (nm 53) (nm 53) ∈ gd := ⟨by decide, rfl, g_in 387 (by decide +kernel) rfl, g_in 388 (by decide +kernel) rfl⟩
set_option maxRecDepth 100000 in
theorem mk_54 : mkr 54 := ⟨g_in 393 rfl rfl, by decide +kernel, by decide +kernel, by decide +kernel, g_in 57 (by decide +kernel) rfl⟩
theorem mv_54 : 0 < 4 ∧ (cT 0).1 = (nm 54).cls ∧ Cond.instanceMethod (nm 54) ∈ gd ∧ Cond.selects (nm 54).cls (nm 54) (nm 54) ∈ gd := ⟨by decide, rfl, g_in 391 (by decide +kernel) rfl, g_in 392 (by decide +kernel) rfl⟩
set_option maxRecDepth 100000 in
theorem mk_55 : mkr 55 := ⟨g_in 397 rfl rfl, by decide +kernel, by decide +kernel, by decide +kernel, g_in 57 (by decide +kernel) rfl⟩
theorem mv_55 : 0 < 4 ∧ (cT 0).1 = (nm 55).cls ∧ Cond.instanceMethod (nm 55) ∈ gd ∧ Cond.selects (nm 55).cls (nm 55) (nm 55) ∈ gd := ⟨by decide, rfl, g_in 395 (by decide +kernel) rfl, g_in 396 (by decide +kernel) rfl⟩
set_option maxRecDepth 100000 in
theorem mk_56 : mkr 56 := ⟨g_in 401 rfl rfl, by decide +kernel, by decide +kernel, by decide +kernel, g_in 57 (by decide +kernel) rfl⟩
theorem mv_56 : 0 < 4 ∧ (cT 0).1 = (nm 56).cls ∧ Cond.instanceMethod (nm 56) ∈ gd ∧ Cond.selects (nm 56).cls (nm 56) (nm 56) ∈ gd := ⟨by decide, rfl, g_in 399 (by decide +kernel) rfl, g_in 400 (by decide +kernel) rfl⟩
set_option maxRecDepth 100000 in
theorem mk_57 : mkr 57 := ⟨g_in 408 rfl rfl, by decide +kernel, by decide +kernel, by decide +kernel, g_in 57 (by decide +kernel) rfl⟩
theorem mv_57 : 0 < 4 ∧ (cT 0).1 = (nm 57).cls ∧ Cond.instanceMethod (nm 57) ∈ gd ∧ Cond.selects (nm 57).cls (nm 57) (nm 57) ∈ gd := ⟨by decide, rfl, g_in 406 (by decide +kernel) rfl, g_in 407 (by decide +kernel) rfl⟩
set_option maxRecDepth 100000 in
theorem mk_58 : mkr 58 := ⟨g_in 412 rfl rfl, by decide +kernel, by decide +kernel, by decide +kernel, g_in 57 (by decide +kernel) rfl⟩
theorem mv_58 : 0 < 4 ∧ (cT 0).1 = (nm 58).cls ∧ Cond.instanceMethod (nm 58) ∈ gd ∧ Cond.selects (nm 58).cls (nm 58) (nm 58) ∈ gd := ⟨by decide, rfl, g_in 410 (by decide +kernel) rfl, g_in 411 (by decide +kernel) rfl⟩
set_option maxRecDepth 100000 in
theorem mk_59 : mkr 59 := ⟨g_in 416 rfl rfl, by decide +kernel, by decide +kernel, by decide +kernel, g_in 57 (by decide +kernel) rfl⟩
theorem mv_59 : 0 < 4 ∧ (cT 0).1 = (nm 59).cls ∧ Cond.instanceMethod (nm 59) ∈ gd ∧ Cond.selects (nm 59).cls (nm 59) (nm 59) ∈ gd := ⟨by decide, rfl, g_in 414 (by decide +kernel) rfl, g_in 415 (by decide +kernel) rfl⟩
set_option maxRecDepth 100000 in
theorem mk_60 : mkr 60 := ⟨g_in 420 rfl rfl, by decide +kernel, by decide +kernel, by decide +kernel, g_in 57 (by decide +kernel) rfl⟩
theorem mv_60 : 0 < 4 ∧ (cT 0).1 = (nm 60).cls ∧ Cond.instanceMethod (nm 60) ∈ gd ∧ Cond.selects (nm 60).cls (nm 60) (nm 60) ∈ gd := ⟨by decide, rfl, g_in 418 (by decide +kernel) rfl, g_in 419 (by decide +kernel) rfl⟩
set_option maxRecDepth 100000 in
theorem mk_61 : mkr 61 := ⟨g_in 425 rfl rfl, by decide +kernel, by decide +kernel, by decide +kernel, g_in 59 (by decide +kernel) rfl⟩
theorem mv_61 : rt 61 = none ∧ (nm 61).name = "<init>" ∧ Cond.instanceMethod (nm 61) ∈ gd := ⟨rfl, rfl, g_in 424 (by decide +kernel) rfl⟩
set_option maxRecDepth 100000 in
theorem mk_62 : mkr 62 := ⟨g_in 580 rfl rfl, by decide +kernel, by decide +kernel, by decide +kernel, g_in 59 (by decide +kernel) rfl⟩
theorem mv_62 : 3 < 4 ∧ (cT 3).1 = (nm 62).cls ∧ Cond.instanceMethod (nm 62) ∈ gd ∧ Cond.selects (nm 62).cls (nm 62) (nm 62) ∈ gd := ⟨by decide, rfl, g_in 579 (by decide +kernel) rfl, g_in 48 (by decide +kernel) rfl⟩
set_option maxRecDepth 100000 in
theorem mk_63 : mkr 63 := ⟨g_in 644 rfl rfl, by decide +kernel, by decide +kernel, by decide +kernel, g_in 59 (by decide +kernel) rfl⟩
theorem mv_63 : 3 < 4 ∧ (cT 3).1 = (nm 63).cls ∧ Cond.instanceMethod (nm 63) ∈ gd ∧ Cond.selects (nm 63).cls (nm 63) (nm 63) ∈ gd := ⟨by decide, rfl, g_in 643 (by decide +kernel) rfl, g_in 55 (by decide +kernel) rfl⟩
set_option maxRecDepth 100000 in
theorem mk_64 : mkr 64 := ⟨g_in 512 rfl rfl, by decide +kernel, by decide +kernel, by decide +kernel, g_in 59 (by decide +kernel) rfl⟩
theorem mv_64 : 3 < 4 ∧ (cT 3).1 = (nm 64).cls ∧ Cond.instanceMethod (nm 64) ∈ gd ∧ Cond.selects (nm 64).cls (nm 64) (nm 64) ∈ gd := ⟨by decide, rfl, g_in 511 (by decide +kernel) rfl, g_in 35 (by decide +kernel) rfl⟩
set_option maxRecDepth 100000 in
theorem mk_65 : mkr 65 := ⟨g_in 508 rfl rfl, by decide +kernel, by decide +kernel, by decide +kernel, g_in 59 (by decide +kernel) rfl⟩
theorem mv_65 : 3 < 4 ∧ (cT 3).1 = (nm 65).cls ∧ Cond.instanceMethod (nm 65) ∈ gd ∧ Cond.selects (nm 65).cls (nm 65) (nm 65) ∈ gd := ⟨by decide, rfl, g_in 506 (by decide +kernel) rfl, g_in 507 (by decide +kernel) rfl⟩
set_option maxRecDepth 100000 in
theorem mk_66 : mkr 66 := ⟨g_in 560 rfl rfl, by decide +kernel, by decide +kernel, by decide +kernel, g_in 59 (by decide +kernel) rfl⟩
theorem mv_66 : 3 < 4 ∧ (cT 3).1 = (nm 66).cls ∧ Cond.instanceMethod (nm 66) ∈ gd ∧ Cond.selects (nm 66).cls (nm 66) (nm 66) ∈ gd := ⟨by decide, rfl, g_in 559 (by decide +kernel) rfl, g_in 45 (by decide +kernel) rfl⟩
set_option maxRecDepth 100000 in
theorem mk_67 : mkr 67 := ⟨g_in 568 rfl rfl, by decide +kernel, by decide +kernel, by decide +kernel, g_in 59 (by decide +kernel) rfl⟩
theorem mv_67 : 3 < 4 ∧ (cT 3).1 = (nm 67).cls ∧ Cond.instanceMethod (nm 67) ∈ gd ∧ Cond.selects (nm 67).cls (nm 67) (nm 67) ∈ gd := ⟨by decide, rfl, g_in 567 (by decide +kernel) rfl, g_in 47 (by decide +kernel) rfl⟩
set_option maxRecDepth 100000 in
theorem mk_68 : mkr 68 := ⟨g_in 528 rfl rfl, by decide +kernel, by decide +kernel, by decide +kernel, g_in 59 (by decide +kernel) rfl⟩
theorem mv_68 : 3 < 4 ∧ (cT 3).1 = (nm 68).cls ∧ Cond.instanceMethod (nm 68) ∈ gd ∧ Cond.selects (nm 68).cls (nm 68) (nm 68) ∈ gd := ⟨by decide, rfl, g_in 527 (by decide +kernel) rfl, g_in 38 (by decide +kernel) rfl⟩
set_option maxRecDepth 100000 in
theorem mk_69 : mkr 69 := ⟨g_in 520 rfl rfl, by decide +kernel, by decide +kernel, by decide +kernel, g_in 59 (by decide +kernel) rfl⟩
theorem mv_69 : 3 < 4 ∧ (cT 3).1 = (nm 69).cls ∧ Cond.instanceMethod (nm 69) ∈ gd ∧ Cond.selects (nm 69).cls (nm 69) (nm 69) ∈ gd := ⟨by decide, rfl, g_in 519 (by decide +kernel) rfl, g_in 36 (by decide +kernel) rfl⟩
set_option maxRecDepth 100000 in
theorem mk_70 : mkr 70 := ⟨g_in 524 rfl rfl, by decide +kernel, by decide +kernel, by decide +kernel, g_in 59 (by decide +kernel) rfl⟩
theorem mv_70 : 3 < 4 ∧ (cT 3).1 = (nm 70).cls ∧ Cond.instanceMethod (nm 70) ∈ gd ∧ Cond.selects (nm 70).cls (nm 70) (nm 70) ∈ gd := ⟨by decide, rfl, g_in 523 (by decide +kernel) rfl, g_in 37 (by decide +kernel) rfl⟩
set_option maxRecDepth 100000 in
theorem mk_71 : mkr 71 := ⟨g_in 516 rfl rfl, by decide +kernel, by decide +kernel, by decide +kernel, g_in 59 (by decide +kernel) rfl⟩
theorem mv_71 : 3 < 4 ∧ (cT 3).1 = (nm 71).cls ∧ Cond.instanceMethod (nm 71) ∈ gd ∧ Cond.selects (nm 71).cls (nm 71) (nm 71) ∈ gd := ⟨by decide, rfl, g_in 514 (by decide +kernel) rfl, g_in 515 (by decide +kernel) rfl⟩
set_option maxRecDepth 100000 in
theorem mk_72 : mkr 72 := ⟨g_in 544 rfl rfl, by decide +kernel, by decide +kernel, by decide +kernel, g_in 59 (by decide +kernel) rfl⟩
theorem mv_72 : 3 < 4 ∧ (cT 3).1 = (nm 72).cls ∧ Cond.instanceMethod (nm 72) ∈ gd ∧ Cond.selects (nm 72).cls (nm 72) (nm 72) ∈ gd := ⟨by decide, rfl, g_in 543 (by decide +kernel) rfl, g_in 41 (by decide +kernel) rfl⟩
set_option maxRecDepth 100000 in
theorem mk_73 : mkr 73 := ⟨g_in 548 rfl rfl, by decide +kernel, by decide +kernel, by decide +kernel, g_in 59 (by decide +kernel) rfl⟩
theorem mv_73 : 3 < 4 ∧ (cT 3).1 = (nm 73).cls ∧ Cond.instanceMethod (nm 73) ∈ gd ∧ Cond.selects (nm 73).cls (nm 73) (nm 73) ∈ gd := ⟨by decide, rfl, g_in 547 (by decide +kernel) rfl, g_in 42 (by decide +kernel) rfl⟩
set_option maxRecDepth 100000 in
theorem mk_74 : mkr 74 := ⟨g_in 540 rfl rfl, by decide +kernel, by decide +kernel, by decide +kernel, g_in 59 (by decide +kernel) rfl⟩
theorem mv_74 : 3 < 4 ∧ (cT 3).1 = (nm 74).cls ∧ Cond.instanceMethod (nm 74) ∈ gd ∧ Cond.selects (nm 74).cls (nm 74) (nm 74) ∈ gd := ⟨by decide, rfl, g_in 539 (by decide +kernel) rfl, g_in 40 (by decide +kernel) rfl⟩
set_option maxRecDepth 100000 in
theorem mk_75 : mkr 75 := ⟨g_in 536 rfl rfl, by decide +kernel, by decide +kernel, by decide +kernel, g_in 59 (by decide +kernel) rfl⟩
theorem mv_75 : 3 < 4 ∧ (cT 3).1 = (nm 75).cls ∧ Cond.instanceMethod (nm 75) ∈ gd ∧ Cond.selects (nm 75).cls (nm 75) (nm 75) ∈ gd := ⟨by decide, rfl, g_in 535 (by decide +kernel) rfl, g_in 39 (by decide +kernel) rfl⟩
set_option maxRecDepth 100000 in
theorem mk_76 : mkr 76 := ⟨g_in 552 rfl rfl, by decide +kernel, by decide +kernel, by decide +kernel, g_in 59 (by decide +kernel) rfl⟩
theorem mv_76 : 3 < 4 ∧ (cT 3).1 = (nm 76).cls ∧ Cond.instanceMethod (nm 76) ∈ gd ∧ Cond.selects (nm 76).cls (nm 76) (nm 76) ∈ gd := ⟨by decide, rfl, g_in 551 (by decide +kernel) rfl, g_in 43 (by decide +kernel) rfl⟩
set_option maxRecDepth 100000 in
theorem mk_77 : mkr 77 := ⟨g_in 564 rfl rfl, by decide +kernel, by decide +kernel, by decide +kernel, g_in 59 (by decide +kernel) rfl⟩
theorem mv_77 : 3 < 4 ∧ (cT 3).1 = (nm 77).cls ∧ Cond.instanceMethod (nm 77) ∈ gd ∧ Cond.selects (nm 77).cls (nm 77) (nm 77) ∈ gd := ⟨by decide, rfl, g_in 563 (by decide +kernel) rfl, g_in 46 (by decide +kernel) rfl⟩
set_option maxRecDepth 100000 in
theorem mk_78 : mkr 78 := ⟨g_in 556 rfl rfl, by decide +kernel, by decide +kernel, by decide +kernel, g_in 59 (by decide +kernel) rfl⟩
theorem mv_78 : 3 < 4 ∧ (cT 3).1 = (nm 78).cls ∧ Cond.instanceMethod (nm 78) ∈ gd ∧ Cond.selects (nm 78).cls (nm 78) (nm 78) ∈ gd := ⟨by decide, rfl, g_in 555 (by decide +kernel) rfl, g_in 44 (by decide +kernel) rfl⟩
set_option maxRecDepth 100000 in
theorem mk_79 : mkr 79 := ⟨g_in 532 rfl rfl, by decide +kernel, by decide +kernel, by decide +kernel, g_in 59 (by decide +kernel) rfl⟩
theorem mv_79 : 3 < 4 ∧ (cT 3).1 = (nm 79).cls ∧ Cond.instanceMethod (nm 79) ∈ gd ∧ Cond.selects (nm 79).cls (nm 79) (nm 79) ∈ gd := ⟨by decide, rfl, g_in 530 (by decide +kernel) rfl, g_in 531 (by decide +kernel) rfl⟩
set_option maxRecDepth 100000 in
theorem mk_80 : mkr 80 := ⟨g_in 572 rfl rfl, by decide +kernel, by decide +kernel, by decide +kernel, g_in 59 (by decide +kernel) rfl⟩
theorem mv_80 : 3 < 4 ∧ (cT 3).1 = (nm 80).cls ∧ Cond.instanceMethod (nm 80) ∈ gd ∧ Cond.selects (nm 80).cls (nm 80) (nm 80) ∈ gd := ⟨by decide, rfl, g_in 570 (by decide +kernel) rfl, g_in 571 (by decide +kernel) rfl⟩
set_option maxRecDepth 100000 in
theorem mk_81 : mkr 81 := ⟨g_in 592 rfl rfl, by decide +kernel, by decide +kernel, by decide +kernel, g_in 59 (by decide +kernel) rfl⟩
theorem mv_81 : 3 < 4 ∧ (cT 3).1 = (nm 81).cls ∧ Cond.instanceMethod (nm 81) ∈ gd ∧ Cond.selects (nm 81).cls (nm 81) (nm 81) ∈ gd := ⟨by decide, rfl, g_in 591 (by decide +kernel) rfl, g_in 51 (by decide +kernel) rfl⟩
set_option maxRecDepth 100000 in
theorem mk_82 : mkr 82 := ⟨g_in 584 rfl rfl, by decide +kernel, by decide +kernel, by decide +kernel, g_in 59 (by decide +kernel) rfl⟩
theorem mv_82 : 3 < 4 ∧ (cT 3).1 = (nm 82).cls ∧ Cond.instanceMethod (nm 82) ∈ gd ∧ Cond.selects (nm 82).cls (nm 82) (nm 82) ∈ gd := ⟨by decide, rfl, g_in 583 (by decide +kernel) rfl, g_in 49 (by decide +kernel) rfl⟩
set_option maxRecDepth 100000 in
theorem mk_83 : mkr 83 := ⟨g_in 588 rfl rfl, by decide +kernel, by decide +kernel, by decide +kernel, g_in 59 (by decide +kernel) rfl⟩
theorem mv_83 : 3 < 4 ∧ (cT 3).1 = (nm 83).cls ∧ Cond.instanceMethod (nm 83) ∈ gd ∧ Cond.selects (nm 83).cls (nm 83) (nm 83) ∈ gd := ⟨by decide, rfl, g_in 587 (by decide +kernel) rfl, g_in 50 (by decide +kernel) rfl⟩
set_option maxRecDepth 100000 in
theorem mk_84 : mkr 84 := ⟨g_in 576 rfl rfl, by decide +kernel, by decide +kernel, by decide +kernel, g_in 59 (by decide +kernel) rfl⟩
theorem mv_84 : 3 < 4 ∧ (cT 3).1 = (nm 84).cls ∧ Cond.instanceMethod (nm 84) ∈ gd ∧ Cond.selects (nm 84).cls (nm 84) (nm 84) ∈ gd := ⟨by decide, rfl, g_in 574 (by decide +kernel) rfl, g_in 575 (by decide +kernel) rfl⟩
set_option maxRecDepth 100000 in
theorem mk_85 : mkr 85 := ⟨g_in 600 rfl rfl, by decide +kernel, by decide +kernel, by decide +kernel, g_in 59 (by decide +kernel) rfl⟩
theorem mv_85 : 3 < 4 ∧ (cT 3).1 = (nm 85).cls ∧ Cond.instanceMethod (nm 85) ∈ gd ∧ Cond.selects (nm 85).cls (nm 85) (nm 85) ∈ gd := ⟨by decide, rfl, g_in 599 (by decide +kernel) rfl, g_in 52 (by decide +kernel) rfl⟩
set_option maxRecDepth 100000 in
theorem mk_86 : mkr 86 := ⟨g_in 596 rfl rfl, by decide +kernel, by decide +kernel, by decide +kernel, g_in 59 (by decide +kernel) rfl⟩
theorem mv_86 : 3 < 4 ∧ (cT 3).1 = (nm 86).cls ∧ Cond.instanceMethod (nm 86) ∈ gd ∧ Cond.selects (nm 86).cls (nm 86) (nm 86) ∈ gd := ⟨by decide, rfl, g_in 594 (by decide +kernel) rfl, g_in 595 (by decide +kernel) rfl⟩
set_option maxRecDepth 100000 in
theorem mk_87 : mkr 87 := ⟨g_in 608 rfl rfl, by decide +kernel, by decide +kernel, by decide +kernel, g_in 59 (by decide +kernel) rfl⟩
theorem mv_87 : 3 < 4 ∧ (cT 3).1 = (nm 87).cls ∧ Cond.instanceMethod (nm 87) ∈ gd ∧ Cond.selects (nm 87).cls (nm 87) (nm 87) ∈ gd := ⟨by decide, rfl, g_in 607 (by decide +kernel) rfl, g_in 53 (by decide +kernel) rfl⟩
set_option maxRecDepth 100000 in
theorem mk_88 : mkr 88 := ⟨g_in 604 rfl rfl, by decide +kernel, by decide +kernel, by decide +kernel, g_in 59 (by decide +kernel) rfl⟩
theorem mv_88 : 3 < 4 ∧ (cT 3).1 = (nm 88).cls ∧ Cond.instanceMethod (nm 88) ∈ gd ∧ Cond.selects (nm 88).cls (nm 88) (nm 88) ∈ gd := ⟨by decide, rfl, g_in 602 (by decide +kernel) rfl, g_in 603 (by decide +kernel) rfl⟩
set_option maxRecDepth 100000 in
theorem mk_89 : mkr 89 := ⟨g_in 612 rfl rfl, by decide +kernel, by decide +kernel, by decide +kernel, g_in 59 (by decide +kernel) rfl⟩
theorem mv_89 : 3 < 4 ∧ (cT 3).1 = (nm 89).cls ∧ Cond.instanceMethod (nm 89) ∈ gd ∧ Cond.selects (nm 89).cls (nm 89) (nm 89) ∈ gd := ⟨by decide, rfl, g_in 610 (by decide +kernel) rfl, g_in 611 (by decide +kernel) rfl⟩
set_option maxRecDepth 100000 in
theorem mk_90 : mkr 90 := ⟨g_in 616 rfl rfl, by decide +kernel, by decide +kernel, by decide +kernel, g_in 59 (by decide +kernel) rfl⟩
theorem mv_90 : 3 < 4 ∧ (cT 3).1 = (nm 90).cls ∧ Cond.instanceMethod (nm 90) ∈ gd ∧ Cond.selects (nm 90).cls (nm 90) (nm 90) ∈ gd := ⟨by decide, rfl, g_in 614 (by decide +kernel) rfl, g_in 615 (by decide +kernel) rfl⟩
set_option maxRecDepth 100000 in
theorem mk_91 : mkr 91 := ⟨g_in 628 rfl rfl, by decide +kernel, by decide +kernel, by decide +kernel, g_in 59 (by decide +kernel) rfl⟩
theorem mv_91 : 3 < 4 ∧ (cT 3).1 = (nm 91).cls ∧ Cond.instanceMethod (nm 91) ∈ gd ∧ Cond.selects (nm 91).cls (nm 91) (nm 91) ∈ gd := ⟨by decide, rfl, g_in 627 (by decide +kernel) rfl, g_in 54 (by decide +kernel) rfl⟩
set_option maxRecDepth 100000 in
theorem mk_92 : mkr 92 := ⟨g_in 620 rfl rfl, by decide +kernel, by decide +kernel, by decide +kernel, g_in 59 (by decide +kernel) rfl⟩
theorem mv_92 : 3 < 4 ∧ (cT 3).1 = (nm 92).cls ∧ Cond.instanceMethod (nm 92) ∈ gd ∧ Cond.selects (nm 92).cls (nm 92) (nm 92) ∈ gd := ⟨by decide, rfl, g_in 618 (by decide +kernel) rfl, g_in 619 (by decide +kernel) rfl⟩
set_option maxRecDepth 100000 in
theorem mk_93 : mkr 93 := ⟨g_in 624 rfl rfl, by decide +kernel, by decide +kernel, by decide +kernel, g_in 59 (by decide +kernel) rfl⟩
theorem mv_93 : 3 < 4 ∧ (cT 3).1 = (nm 93).cls ∧ Cond.instanceMethod (nm 93) ∈ gd ∧ Cond.selects (nm 93).cls (nm 93) (nm 93) ∈ gd := ⟨by decide, rfl, g_in 622 (by decide +kernel) rfl, g_in 623 (by decide +kernel) rfl⟩
set_option maxRecDepth 100000 in
theorem mk_94 : mkr 94 := ⟨g_in 632 rfl rfl, by decide +kernel, by decide +kernel, by decide +kernel, g_in 59 (by decide +kernel) rfl⟩
theorem mv_94 : 3 < 4 ∧ (cT 3).1 = (nm 94).cls ∧ Cond.instanceMethod (nm 94) ∈ gd ∧ Cond.selects (nm 94).cls (nm 94) (nm 94) ∈ gd := ⟨by decide, rfl, g_in 630 (by decide +kernel) rfl, g_in 631 (by decide +kernel) rfl⟩
set_option maxRecDepth 100000 in
theorem mk_95 : mkr 95 := ⟨g_in 636 rfl rfl, by decide +kernel, by decide +kernel, by decide +kernel, g_in 59 (by decide +kernel) rfl⟩
theorem mv_95 : 3 < 4 ∧ (cT 3).1 = (nm 95).cls ∧ Cond.instanceMethod (nm 95) ∈ gd ∧ Cond.selects (nm 95).cls (nm 95) (nm 95) ∈ gd := ⟨by decide, rfl, g_in 634 (by decide +kernel) rfl, g_in 635 (by decide +kernel) rfl⟩
set_option maxRecDepth 100000 in
theorem mk_96 : mkr 96 := ⟨g_in 640 rfl rfl, by decide +kernel, by decide +kernel, by decide +kernel, g_in 59 (by decide +kernel) rfl⟩
theorem mv_96 : 3 < 4 ∧ (cT 3).1 = (nm 96).cls ∧ Cond.instanceMethod (nm 96) ∈ gd ∧ Cond.selects (nm 96).cls (nm 96) (nm 96) ∈ gd := ⟨by decide, rfl, g_in 638 (by decide +kernel) rfl, g_in 639 (by decide +kernel) rfl⟩
set_option maxRecDepth 100000 in
theorem mk_97 : mkr 97 := ⟨g_in 648 rfl rfl, by decide +kernel, by decide +kernel, by decide +kernel, g_in 59 (by decide +kernel) rfl⟩
theorem mv_97 : 3 < 4 ∧ (cT 3).1 = (nm 97).cls ∧ Cond.instanceMethod (nm 97) ∈ gd ∧ Cond.selects (nm 97).cls (nm 97) (nm 97) ∈ gd := ⟨by decide, rfl, g_in 646 (by decide +kernel) rfl, g_in 647 (by decide +kernel) rfl⟩
set_option maxRecDepth 100000 in
theorem mk_98 : mkr 98 := ⟨g_in 652 rfl rfl, by decide +kernel, by decide +kernel, by decide +kernel, g_in 59 (by decide +kernel) rfl⟩
theorem mv_98 : 3 < 4 ∧ (cT 3).1 = (nm 98).cls ∧ Cond.instanceMethod (nm 98) ∈ gd ∧ Cond.selects (nm 98).cls (nm 98) (nm 98) ∈ gd := ⟨by decide, rfl, g_in 650 (by decide +kernel) rfl, g_in 651 (by decide +kernel) rfl⟩
set_option maxRecDepth 100000 in
theorem mk_99 : mkr 99 := ⟨g_in 656 rfl rfl, by decide +kernel, by decide +kernel, by decide +kernel, g_in 59 (by decide +kernel) rfl⟩
theorem mv_99 : 3 < 4 ∧ (cT 3).1 = (nm 99).cls ∧ Cond.instanceMethod (nm 99) ∈ gd ∧ Cond.selects (nm 99).cls (nm 99) (nm 99) ∈ gd := ⟨by decide, rfl, g_in 654 (by decide +kernel) rfl, g_in 655 (by decide +kernel) rfl⟩
set_option maxRecDepth 100000 in
theorem mk_100 : mkr 100 := ⟨g_in 660 rfl rfl, by decide +kernel, by decide +kernel, by decide +kernel, g_in 59 (by decide +kernel) rfl⟩
theorem mv_100 : 3 < 4 ∧ (cT 3).1 = (nm 100).cls ∧ Cond.instanceMethod (nm 100) ∈ gd ∧ Cond.selects (nm 100).cls (nm 100) (nm 100) ∈ gd := ⟨by decide, rfl, g_in 658 (by decide +kernel) rfl, g_in 659 (by decide +kernel) rfl⟩
