/-! the law: one call -/
theorem lo_make {h : AH} {S : SS} {sg : Nat → Nat} {L i n : Nat} (c : RC h S) (m : RM h S sg) (v : IV S) (e8 : hL h 8 0 = L) (hi : i + 4 ≤ L) (nx : ∀ h' S' sg', RC h' S' → RM h' S' sg' → IV S' → hL h' 8 0 = L → TT 101 604 [rv 8 (some 0), rv 0 (some 0), rv 3 (some 0), iv (nI i)] [] h' (2 * n) (10 * n) (fun r _ => r = some (iv 1))) : TT 101 120 [rv 8 (some 0), rv 0 (some 0), rv 3 (some 0), iv (nI i)] [] h (2 + (0 + 2 * n)) (10 + (0 + 10 * n)) (fun r _ => r = some (iv 1)) := by
  obtain ⟨A, S', v', hC, hM⟩ := jo_make (sg := sg) c v (hI h 8 0 (i + 1)) (hI h 8 0 (i + 2)) (hI h 8 0 (i + 3))
  refine r_aload_n 121 d_101_120 rfl rfl ?_
  refine r_aload_n 122 d_101_121 rfl rfl ?_
  refine r_iload_n 123 d_101_122 rfl rfl ?_
  refine r_iconst 124 (nI 1) d_101_123 rfl (by decide) ?_
  refine r_iadd 125 (nI (i + 1)) d_101_124 rfl (nI_add _ _) ?_
  refine r_sald 126 (i + 1) (hI h 8 0 (i + 1)) d_101_125 rfl rfl (by omega) rfl ?_
  refine r_aload_n 127 d_101_126 rfl rfl ?_
  refine r_iload_n 128 d_101_127 rfl rfl ?_
  refine r_iconst 129 (nI 2) d_101_128 rfl (by decide) ?_
  refine r_iadd 130 (nI (i + 2)) d_101_129 rfl (nI_add _ _) ?_
  refine r_sald 131 (i + 2) (hI h 8 0 (i + 2)) d_101_130 rfl rfl (by omega) rfl ?_
  refine r_aload_n 132 d_101_131 rfl rfl ?_
  refine r_iload_n 133 d_101_132 rfl rfl ?_
  refine r_iconst 134 (nI 3) d_101_133 rfl (by decide) ?_
  refine r_iadd 135 (nI (i + 3)) d_101_134 rfl (nI_add _ _) ?_
  refine r_sald 136 (i + 3) (hI h 8 0 (i + 3)) d_101_135 rfl rfl (by omega) rfl ?_
  refine r_callV (k1 := 2) (n1 := 10) (k := 0 + 2 * n) (n := 0 + 10 * n) 139 10 0 [iv (hI h 8 0 (i + 1)), iv (hI h 8 0 (i + 2)), iv (hI h 8 0 (i + 3))] d_101_136 rfl mk_10 lk_4_13 mv_10 rfl rfl rfl rfl rfl _ hC ?_
  intro r_136 h_136 q_136
  obtain ⟨q1, q2, q3⟩ := q_136
  subst q1
  have f8 := q3 8 rfl
  have e8x : hL h_136 8 0 = L := (f8.2.1 0).trans e8
  have g8 : ∀ k, hI h_136 8 0 k = hI h 8 0 k := fun k => f8.2.2.1 0 k
  show TT 101 139 [rv 8 (some 0), rv 0 (some 0), rv 3 (some 0), iv (nI i)] [iv A] h_136 _ _ _
  refine r_aload_n 140 d_101_139 rfl rfl ?_
  refine r_aload_n 141 d_101_140 rfl rfl ?_
  refine r_iload_n 142 d_101_141 rfl rfl ?_
  refine r_iconst 143 (nI 1) d_101_142 rfl (by decide) ?_
  refine r_iadd 144 (nI (i + 1)) d_101_143 rfl (nI_add _ _) ?_
  refine r_sald 145 (i + 1) (hI h 8 0 (i + 1)) d_101_144 rfl rfl (by omega) (g8 _) ?_
  refine r_aload_n 146 d_101_145 rfl rfl ?_
  refine r_iload_n 147 d_101_146 rfl rfl ?_
  refine r_iconst 148 (nI 2) d_101_147 rfl (by decide) ?_
  refine r_iadd 149 (nI (i + 2)) d_101_148 rfl (nI_add _ _) ?_
  refine r_sald 150 (i + 2) (hI h 8 0 (i + 2)) d_101_149 rfl rfl (by omega) (g8 _) ?_
  refine r_aload_n 151 d_101_150 rfl rfl ?_
  refine r_iload_n 152 d_101_151 rfl rfl ?_
  refine r_iconst 153 (nI 3) d_101_152 rfl (by decide) ?_
  refine r_iadd 154 (nI (i + 3)) d_101_153 rfl (nI_add _ _) ?_
  refine r_sald 155 (i + 3) (hI h 8 0 (i + 3)) d_101_154 rfl rfl (by omega) (g8 _) ?_
  refine r_callV (k1 := 0) (n1 := 0) (k := 2 * n) (n := 10 * n) 158 84 3 [iv (hI h 8 0 (i + 1)), iv (hI h 8 0 (i + 2)), iv (hI h 8 0 (i + 3))] d_101_155 rfl mk_84 lk_4_17 mv_84 rfl rfl rfl rfl rfl _ (hM h_136 (RX_CF m q3)) ?_
  intro r_155 h_155 q_155
  obtain ⟨p1, ⟨sg1, p2⟩, p3⟩ := q_155
  subst p1
  show TT 101 158 [rv 8 (some 0), rv 0 (some 0), rv 3 (some 0), iv (nI i)] [iv A, iv A] h_155 _ _ _
  refine r_icmp_eq 604 161 d_101_158 (by decide) rfl (fun c_158 => ?_) (fun c_158 => absurd rfl c_158)
  exact nx h_155 S' sg1 (RC_MF q2 p3) p2 v' (((p3 8 rfl).2.1 0).trans e8x)
theorem lo_large {h : AH} {S : SS} {sg : Nat → Nat} {L i n : Nat} (c : RC h S) (m : RM h S sg) (v : IV S) (e8 : hL h 8 0 = L) (hi : i + 4 ≤ L) (nx : ∀ h' S' sg', RC h' S' → RM h' S' sg' → IV S' → hL h' 8 0 = L → TT 101 604 [rv 8 (some 0), rv 0 (some 0), rv 3 (some 0), iv (nI i)] [] h' (2 * n) (10 * n) (fun r _ => r = some (iv 1))) : TT 101 163 [rv 8 (some 0), rv 0 (some 0), rv 3 (some 0), iv (nI i)] [] h (2 + (0 + 2 * n)) (10 + (0 + 10 * n)) (fun r _ => r = some (iv 1)) := by
  obtain ⟨A, S', v', hC, hM⟩ := jo_large (sg := sg) c v (hI h 8 0 (i + 1)) (hI h 8 0 (i + 2)) (hI h 8 0 (i + 3))
  refine r_aload_n 164 d_101_163 rfl rfl ?_
  refine r_aload_n 165 d_101_164 rfl rfl ?_
  refine r_iload_n 166 d_101_165 rfl rfl ?_
  refine r_iconst 167 (nI 1) d_101_166 rfl (by decide) ?_
  refine r_iadd 168 (nI (i + 1)) d_101_167 rfl (nI_add _ _) ?_
  refine r_sald 169 (i + 1) (hI h 8 0 (i + 1)) d_101_168 rfl rfl (by omega) rfl ?_
  refine r_aload_n 170 d_101_169 rfl rfl ?_
  refine r_iload_n 171 d_101_170 rfl rfl ?_
  refine r_iconst 172 (nI 2) d_101_171 rfl (by decide) ?_
  refine r_iadd 173 (nI (i + 2)) d_101_172 rfl (nI_add _ _) ?_
  refine r_sald 174 (i + 2) (hI h 8 0 (i + 2)) d_101_173 rfl rfl (by omega) rfl ?_
  refine r_aload_n 175 d_101_174 rfl rfl ?_
  refine r_iload_n 176 d_101_175 rfl rfl ?_
  refine r_iconst 177 (nI 3) d_101_176 rfl (by decide) ?_
  refine r_iadd 178 (nI (i + 3)) d_101_177 rfl (nI_add _ _) ?_
  refine r_sald 179 (i + 3) (hI h 8 0 (i + 3)) d_101_178 rfl rfl (by omega) rfl ?_
  refine r_callV (k1 := 2) (n1 := 10) (k := 0 + 2 * n) (n := 0 + 10 * n) 182 11 0 [iv (hI h 8 0 (i + 1)), iv (hI h 8 0 (i + 2)), iv (hI h 8 0 (i + 3))] d_101_179 rfl mk_11 lk_4_18 mv_11 rfl rfl rfl rfl rfl _ hC ?_
  intro r_179 h_179 q_179
  obtain ⟨q1, q2, q3⟩ := q_179
  subst q1
  have f8 := q3 8 rfl
  have e8x : hL h_179 8 0 = L := (f8.2.1 0).trans e8
  have g8 : ∀ k, hI h_179 8 0 k = hI h 8 0 k := fun k => f8.2.2.1 0 k
  show TT 101 182 [rv 8 (some 0), rv 0 (some 0), rv 3 (some 0), iv (nI i)] [iv A] h_179 _ _ _
  refine r_aload_n 183 d_101_182 rfl rfl ?_
  refine r_aload_n 184 d_101_183 rfl rfl ?_
  refine r_iload_n 185 d_101_184 rfl rfl ?_
  refine r_iconst 186 (nI 1) d_101_185 rfl (by decide) ?_
  refine r_iadd 187 (nI (i + 1)) d_101_186 rfl (nI_add _ _) ?_
  refine r_sald 188 (i + 1) (hI h 8 0 (i + 1)) d_101_187 rfl rfl (by omega) (g8 _) ?_
  refine r_aload_n 189 d_101_188 rfl rfl ?_
  refine r_iload_n 190 d_101_189 rfl rfl ?_
  refine r_iconst 191 (nI 2) d_101_190 rfl (by decide) ?_
  refine r_iadd 192 (nI (i + 2)) d_101_191 rfl (nI_add _ _) ?_
  refine r_sald 193 (i + 2) (hI h 8 0 (i + 2)) d_101_192 rfl rfl (by omega) (g8 _) ?_
  refine r_aload_n 194 d_101_193 rfl rfl ?_
  refine r_iload_n 195 d_101_194 rfl rfl ?_
  refine r_iconst 196 (nI 3) d_101_195 rfl (by decide) ?_
  refine r_iadd 197 (nI (i + 3)) d_101_196 rfl (nI_add _ _) ?_
  refine r_sald 198 (i + 3) (hI h 8 0 (i + 3)) d_101_197 rfl rfl (by omega) (g8 _) ?_
  refine r_callV (k1 := 0) (n1 := 0) (k := 2 * n) (n := 10 * n) 201 86 3 [iv (hI h 8 0 (i + 1)), iv (hI h 8 0 (i + 2)), iv (hI h 8 0 (i + 3))] d_101_198 rfl mk_86 lk_4_21 mv_86 rfl rfl rfl rfl rfl _ (hM h_179 (RX_CF m q3)) ?_
  intro r_198 h_198 q_198
  obtain ⟨p1, ⟨sg1, p2⟩, p3⟩ := q_198
  subst p1
  show TT 101 201 [rv 8 (some 0), rv 0 (some 0), rv 3 (some 0), iv (nI i)] [iv A, iv A] h_198 _ _ _
  refine r_icmp_eq 604 204 d_101_201 (by decide) rfl (fun c_201 => ?_) (fun c_201 => absurd rfl c_201)
  exact nx h_198 S' sg1 (RC_MF q2 p3) p2 v' (((p3 8 rfl).2.1 0).trans e8x)
theorem lo_link {h : AH} {S : SS} {sg : Nat → Nat} {L i n : Nat} (c : RC h S) (m : RM h S sg) (v : IV S) (e8 : hL h 8 0 = L) (hi : i + 4 ≤ L) (nx : ∀ h' S' sg', RC h' S' → RM h' S' sg' → IV S' → hL h' 8 0 = L → TT 101 604 [rv 8 (some 0), rv 0 (some 0), rv 3 (some 0), iv (nI i)] [] h' (2 * n) (10 * n) (fun r _ => r = some (iv 1))) : TT 101 206 [rv 8 (some 0), rv 0 (some 0), rv 3 (some 0), iv (nI i)] [] h (2 + (0 + 2 * n)) (10 + (0 + 10 * n)) (fun r _ => r = some (iv 1)) := by
  obtain ⟨A, S', v', hC, hM⟩ := jo_link (sg := sg) c v (hI h 8 0 (i + 1)) (hI h 8 0 (i + 2)) (hI h 8 0 (i + 3))
  refine r_aload_n 207 d_101_206 rfl rfl ?_
  refine r_aload_n 208 d_101_207 rfl rfl ?_
  refine r_iload_n 209 d_101_208 rfl rfl ?_
  refine r_iconst 210 (nI 1) d_101_209 rfl (by decide) ?_
  refine r_iadd 211 (nI (i + 1)) d_101_210 rfl (nI_add _ _) ?_
  refine r_sald 212 (i + 1) (hI h 8 0 (i + 1)) d_101_211 rfl rfl (by omega) rfl ?_
  refine r_aload_n 213 d_101_212 rfl rfl ?_
  refine r_iload_n 214 d_101_213 rfl rfl ?_
  refine r_iconst 215 (nI 2) d_101_214 rfl (by decide) ?_
  refine r_iadd 216 (nI (i + 2)) d_101_215 rfl (nI_add _ _) ?_
  refine r_sald 217 (i + 2) (hI h 8 0 (i + 2)) d_101_216 rfl rfl (by omega) rfl ?_
  refine r_aload_n 218 d_101_217 rfl rfl ?_
  refine r_iload_n 219 d_101_218 rfl rfl ?_
  refine r_iconst 220 (nI 3) d_101_219 rfl (by decide) ?_
  refine r_iadd 221 (nI (i + 3)) d_101_220 rfl (nI_add _ _) ?_
  refine r_sald 222 (i + 3) (hI h 8 0 (i + 3)) d_101_221 rfl rfl (by omega) rfl ?_
  refine r_callV (k1 := 2) (n1 := 10) (k := 0 + 2 * n) (n := 0 + 10 * n) 225 19 0 [iv (hI h 8 0 (i + 1)), iv (hI h 8 0 (i + 2)), iv (hI h 8 0 (i + 3))] d_101_222 rfl mk_19 lk_4_22 mv_19 rfl rfl rfl rfl rfl _ hC ?_
  intro r_222 h_222 q_222
  obtain ⟨q1, q2, q3⟩ := q_222
  subst q1
  have f8 := q3 8 rfl
  have e8x : hL h_222 8 0 = L := (f8.2.1 0).trans e8
  have g8 : ∀ k, hI h_222 8 0 k = hI h 8 0 k := fun k => f8.2.2.1 0 k
  show TT 101 225 [rv 8 (some 0), rv 0 (some 0), rv 3 (some 0), iv (nI i)] [iv A] h_222 _ _ _
  refine r_aload_n 226 d_101_225 rfl rfl ?_
  refine r_aload_n 227 d_101_226 rfl rfl ?_
  refine r_iload_n 228 d_101_227 rfl rfl ?_
  refine r_iconst 229 (nI 1) d_101_228 rfl (by decide) ?_
  refine r_iadd 230 (nI (i + 1)) d_101_229 rfl (nI_add _ _) ?_
  refine r_sald 231 (i + 1) (hI h 8 0 (i + 1)) d_101_230 rfl rfl (by omega) (g8 _) ?_
  refine r_aload_n 232 d_101_231 rfl rfl ?_
  refine r_iload_n 233 d_101_232 rfl rfl ?_
  refine r_iconst 234 (nI 2) d_101_233 rfl (by decide) ?_
  refine r_iadd 235 (nI (i + 2)) d_101_234 rfl (nI_add _ _) ?_
  refine r_sald 236 (i + 2) (hI h 8 0 (i + 2)) d_101_235 rfl rfl (by omega) (g8 _) ?_
  refine r_aload_n 237 d_101_236 rfl rfl ?_
  refine r_iload_n 238 d_101_237 rfl rfl ?_
  refine r_iconst 239 (nI 3) d_101_238 rfl (by decide) ?_
  refine r_iadd 240 (nI (i + 3)) d_101_239 rfl (nI_add _ _) ?_
  refine r_sald 241 (i + 3) (hI h 8 0 (i + 3)) d_101_240 rfl rfl (by omega) (g8 _) ?_
  refine r_callV (k1 := 0) (n1 := 0) (k := 2 * n) (n := 10 * n) 244 88 3 [iv (hI h 8 0 (i + 1)), iv (hI h 8 0 (i + 2)), iv (hI h 8 0 (i + 3))] d_101_241 rfl mk_88 lk_4_26 mv_88 rfl rfl rfl rfl rfl _ (hM h_222 (RX_CF m q3)) ?_
  intro r_241 h_241 q_241
  obtain ⟨p1, ⟨sg1, p2⟩, p3⟩ := q_241
  subst p1
  show TT 101 244 [rv 8 (some 0), rv 0 (some 0), rv 3 (some 0), iv (nI i)] [iv A, iv A] h_241 _ _ _
  refine r_icmp_eq 604 247 d_101_244 (by decide) rfl (fun c_244 => ?_) (fun c_244 => absurd rfl c_244)
  exact nx h_241 S' sg1 (RC_MF q2 p3) p2 v' (((p3 8 rfl).2.1 0).trans e8x)
theorem lo_load {h : AH} {S : SS} {sg : Nat → Nat} {L i n : Nat} (c : RC h S) (m : RM h S sg) (v : IV S) (e8 : hL h 8 0 = L) (hi : i + 4 ≤ L) (nx : ∀ h' S' sg', RC h' S' → RM h' S' sg' → IV S' → hL h' 8 0 = L → TT 101 604 [rv 8 (some 0), rv 0 (some 0), rv 3 (some 0), iv (nI i)] [] h' (2 * n) (10 * n) (fun r _ => r = some (iv 1))) : TT 101 249 [rv 8 (some 0), rv 0 (some 0), rv 3 (some 0), iv (nI i)] [] h (2 + (0 + 2 * n)) (10 + (0 + 10 * n)) (fun r _ => r = some (iv 1)) := by
  obtain ⟨A, S', v', hC, hM⟩ := jo_load (sg := sg) c v (hI h 8 0 (i + 1)) (hI h 8 0 (i + 2)) (hI h 8 0 (i + 3))
  refine r_aload_n 250 d_101_249 rfl rfl ?_
  refine r_aload_n 251 d_101_250 rfl rfl ?_
  refine r_iload_n 252 d_101_251 rfl rfl ?_
  refine r_iconst 253 (nI 1) d_101_252 rfl (by decide) ?_
  refine r_iadd 254 (nI (i + 1)) d_101_253 rfl (nI_add _ _) ?_
  refine r_sald 255 (i + 1) (hI h 8 0 (i + 1)) d_101_254 rfl rfl (by omega) rfl ?_
  refine r_aload_n 256 d_101_255 rfl rfl ?_
  refine r_iload_n 257 d_101_256 rfl rfl ?_
  refine r_iconst 258 (nI 2) d_101_257 rfl (by decide) ?_
  refine r_iadd 259 (nI (i + 2)) d_101_258 rfl (nI_add _ _) ?_
  refine r_sald 260 (i + 2) (hI h 8 0 (i + 2)) d_101_259 rfl rfl (by omega) rfl ?_
  refine r_aload_n 261 d_101_260 rfl rfl ?_
  refine r_iload_n 262 d_101_261 rfl rfl ?_
  refine r_iconst 263 (nI 3) d_101_262 rfl (by decide) ?_
  refine r_iadd 264 (nI (i + 3)) d_101_263 rfl (nI_add _ _) ?_
  refine r_sald 265 (i + 3) (hI h 8 0 (i + 3)) d_101_264 rfl rfl (by omega) rfl ?_
  refine r_callV (k1 := 2) (n1 := 10) (k := 0 + 2 * n) (n := 0 + 10 * n) 268 20 0 [iv (hI h 8 0 (i + 1)), iv (hI h 8 0 (i + 2)), iv (hI h 8 0 (i + 3))] d_101_265 rfl mk_20 lk_4_27 mv_20 rfl rfl rfl rfl rfl _ hC ?_
  intro r_265 h_265 q_265
  obtain ⟨q1, q2, q3⟩ := q_265
  subst q1
  have f8 := q3 8 rfl
  have e8x : hL h_265 8 0 = L := (f8.2.1 0).trans e8
  have g8 : ∀ k, hI h_265 8 0 k = hI h 8 0 k := fun k => f8.2.2.1 0 k
  show TT 101 268 [rv 8 (some 0), rv 0 (some 0), rv 3 (some 0), iv (nI i)] [iv A] h_265 _ _ _
  refine r_aload_n 269 d_101_268 rfl rfl ?_
  refine r_aload_n 270 d_101_269 rfl rfl ?_
  refine r_iload_n 271 d_101_270 rfl rfl ?_
  refine r_iconst 272 (nI 1) d_101_271 rfl (by decide) ?_
  refine r_iadd 273 (nI (i + 1)) d_101_272 rfl (nI_add _ _) ?_
  refine r_sald 274 (i + 1) (hI h 8 0 (i + 1)) d_101_273 rfl rfl (by omega) (g8 _) ?_
  refine r_aload_n 275 d_101_274 rfl rfl ?_
  refine r_iload_n 276 d_101_275 rfl rfl ?_
  refine r_iconst 277 (nI 2) d_101_276 rfl (by decide) ?_
  refine r_iadd 278 (nI (i + 2)) d_101_277 rfl (nI_add _ _) ?_
  refine r_sald 279 (i + 2) (hI h 8 0 (i + 2)) d_101_278 rfl rfl (by omega) (g8 _) ?_
  refine r_aload_n 280 d_101_279 rfl rfl ?_
  refine r_iload_n 281 d_101_280 rfl rfl ?_
  refine r_iconst 282 (nI 3) d_101_281 rfl (by decide) ?_
  refine r_iadd 283 (nI (i + 3)) d_101_282 rfl (nI_add _ _) ?_
  refine r_sald 284 (i + 3) (hI h 8 0 (i + 3)) d_101_283 rfl rfl (by omega) (g8 _) ?_
  refine r_callV (k1 := 0) (n1 := 0) (k := 2 * n) (n := 10 * n) 287 89 3 [iv (hI h 8 0 (i + 1)), iv (hI h 8 0 (i + 2)), iv (hI h 8 0 (i + 3))] d_101_284 rfl mk_89 lk_4_30 mv_89 rfl rfl rfl rfl rfl _ (hM h_265 (RX_CF m q3)) ?_
  intro r_284 h_284 q_284
  obtain ⟨p1, ⟨sg1, p2⟩, p3⟩ := q_284
  subst p1
  show TT 101 287 [rv 8 (some 0), rv 0 (some 0), rv 3 (some 0), iv (nI i)] [iv A, iv A] h_284 _ _ _
  refine r_icmp_eq 604 290 d_101_287 (by decide) rfl (fun c_287 => ?_) (fun c_287 => absurd rfl c_287)
  exact nx h_284 S' sg1 (RC_MF q2 p3) p2 v' (((p3 8 rfl).2.1 0).trans e8x)
theorem lo_hold {h : AH} {S : SS} {sg : Nat → Nat} {L i n : Nat} (c : RC h S) (m : RM h S sg) (v : IV S) (e8 : hL h 8 0 = L) (hi : i + 4 ≤ L) (nx : ∀ h' S' sg', RC h' S' → RM h' S' sg' → IV S' → hL h' 8 0 = L → TT 101 604 [rv 8 (some 0), rv 0 (some 0), rv 3 (some 0), iv (nI i)] [] h' (2 * n) (10 * n) (fun r _ => r = some (iv 1))) : TT 101 292 [rv 8 (some 0), rv 0 (some 0), rv 3 (some 0), iv (nI i)] [] h (2 + (0 + 2 * n)) (10 + (0 + 10 * n)) (fun r _ => r = some (iv 1)) := by
  obtain ⟨A, S', v', hC, hM⟩ := jo_hold (sg := sg) c v (hI h 8 0 (i + 1)) (hI h 8 0 (i + 2))
  refine r_aload_n 293 d_101_292 rfl rfl ?_
  refine r_aload_n 294 d_101_293 rfl rfl ?_
  refine r_iload_n 295 d_101_294 rfl rfl ?_
  refine r_iconst 296 (nI 1) d_101_295 rfl (by decide) ?_
  refine r_iadd 297 (nI (i + 1)) d_101_296 rfl (nI_add _ _) ?_
  refine r_sald 298 (i + 1) (hI h 8 0 (i + 1)) d_101_297 rfl rfl (by omega) rfl ?_
  refine r_aload_n 299 d_101_298 rfl rfl ?_
  refine r_iload_n 300 d_101_299 rfl rfl ?_
  refine r_iconst 301 (nI 2) d_101_300 rfl (by decide) ?_
  refine r_iadd 302 (nI (i + 2)) d_101_301 rfl (nI_add _ _) ?_
  refine r_sald 303 (i + 2) (hI h 8 0 (i + 2)) d_101_302 rfl rfl (by omega) rfl ?_
  refine r_callV (k1 := 2) (n1 := 10) (k := 0 + 2 * n) (n := 0 + 10 * n) 306 21 0 [iv (hI h 8 0 (i + 1)), iv (hI h 8 0 (i + 2))] d_101_303 rfl mk_21 lk_4_31 mv_21 rfl rfl rfl rfl rfl _ hC ?_
  intro r_303 h_303 q_303
  obtain ⟨q1, q2, q3⟩ := q_303
  subst q1
  have f8 := q3 8 rfl
  have e8x : hL h_303 8 0 = L := (f8.2.1 0).trans e8
  have g8 : ∀ k, hI h_303 8 0 k = hI h 8 0 k := fun k => f8.2.2.1 0 k
  show TT 101 306 [rv 8 (some 0), rv 0 (some 0), rv 3 (some 0), iv (nI i)] [iv A] h_303 _ _ _
  refine r_aload_n 307 d_101_306 rfl rfl ?_
  refine r_aload_n 308 d_101_307 rfl rfl ?_
  refine r_iload_n 309 d_101_308 rfl rfl ?_
  refine r_iconst 310 (nI 1) d_101_309 rfl (by decide) ?_
  refine r_iadd 311 (nI (i + 1)) d_101_310 rfl (nI_add _ _) ?_
  refine r_sald 312 (i + 1) (hI h 8 0 (i + 1)) d_101_311 rfl rfl (by omega) (g8 _) ?_
  refine r_aload_n 313 d_101_312 rfl rfl ?_
  refine r_iload_n 314 d_101_313 rfl rfl ?_
  refine r_iconst 315 (nI 2) d_101_314 rfl (by decide) ?_
  refine r_iadd 316 (nI (i + 2)) d_101_315 rfl (nI_add _ _) ?_
  refine r_sald 317 (i + 2) (hI h 8 0 (i + 2)) d_101_316 rfl rfl (by omega) (g8 _) ?_
  refine r_callV (k1 := 0) (n1 := 0) (k := 2 * n) (n := 10 * n) 320 90 3 [iv (hI h 8 0 (i + 1)), iv (hI h 8 0 (i + 2))] d_101_317 rfl mk_90 lk_4_35 mv_90 rfl rfl rfl rfl rfl _ (hM h_303 (RX_CF m q3)) ?_
  intro r_317 h_317 q_317
  obtain ⟨p1, ⟨sg1, p2⟩, p3⟩ := q_317
  subst p1
  show TT 101 320 [rv 8 (some 0), rv 0 (some 0), rv 3 (some 0), iv (nI i)] [iv A, iv A] h_317 _ _ _
  refine r_icmp_eq 604 323 d_101_320 (by decide) rfl (fun c_320 => ?_) (fun c_320 => absurd rfl c_320)
  exact nx h_317 S' sg1 (RC_MF q2 p3) p2 v' (((p3 8 rfl).2.1 0).trans e8x)
theorem lo_collect {h : AH} {S : SS} {sg : Nat → Nat} {L i n : Nat} (c : RC h S) (m : RM h S sg) (v : IV S) (e8 : hL h 8 0 = L) (hi : i + 4 ≤ L) (nx : ∀ h' S' sg', RC h' S' → RM h' S' sg' → IV S' → hL h' 8 0 = L → TT 101 604 [rv 8 (some 0), rv 0 (some 0), rv 3 (some 0), iv (nI i)] [] h' (2 * n) (10 * n) (fun r _ => r = some (iv 1))) : TT 101 325 [rv 8 (some 0), rv 0 (some 0), rv 3 (some 0), iv (nI i)] [] h (2 + (0 + 2 * n)) (10 + (0 + 10 * n)) (fun r _ => r = some (iv 1)) := by
  obtain ⟨A, S', v', hC, hM⟩ := jo_collect (sg := sg) c v (hI h 8 0 (i + 1))
  refine r_aload_n 326 d_101_325 rfl rfl ?_
  refine r_aload_n 327 d_101_326 rfl rfl ?_
  refine r_iload_n 328 d_101_327 rfl rfl ?_
  refine r_iconst 329 (nI 1) d_101_328 rfl (by decide) ?_
  refine r_iadd 330 (nI (i + 1)) d_101_329 rfl (nI_add _ _) ?_
  refine r_sald 331 (i + 1) (hI h 8 0 (i + 1)) d_101_330 rfl rfl (by omega) rfl ?_
  refine r_callV (k1 := 2) (n1 := 10) (k := 0 + 2 * n) (n := 0 + 10 * n) 334 27 0 [iv (hI h 8 0 (i + 1))] d_101_331 rfl mk_27 lk_4_36 mv_27 rfl rfl rfl rfl rfl _ hC ?_
  intro r_331 h_331 q_331
  obtain ⟨q1, q2, q3⟩ := q_331
  subst q1
  have f8 := q3 8 rfl
  have e8x : hL h_331 8 0 = L := (f8.2.1 0).trans e8
  have g8 : ∀ k, hI h_331 8 0 k = hI h 8 0 k := fun k => f8.2.2.1 0 k
  show TT 101 334 [rv 8 (some 0), rv 0 (some 0), rv 3 (some 0), iv (nI i)] [iv A] h_331 _ _ _
  refine r_aload_n 335 d_101_334 rfl rfl ?_
  refine r_aload_n 336 d_101_335 rfl rfl ?_
  refine r_iload_n 337 d_101_336 rfl rfl ?_
  refine r_iconst 338 (nI 1) d_101_337 rfl (by decide) ?_
  refine r_iadd 339 (nI (i + 1)) d_101_338 rfl (nI_add _ _) ?_
  refine r_sald 340 (i + 1) (hI h 8 0 (i + 1)) d_101_339 rfl rfl (by omega) (g8 _) ?_
  refine r_callV (k1 := 0) (n1 := 0) (k := 2 * n) (n := 10 * n) 343 79 3 [iv (hI h 8 0 (i + 1))] d_101_340 rfl mk_79 lk_4_40 mv_79 rfl rfl rfl rfl rfl _ (hM h_331 (RX_CF m q3)) ?_
  intro r_340 h_340 q_340
  obtain ⟨p1, ⟨sg1, p2⟩, p3⟩ := q_340
  subst p1
  show TT 101 343 [rv 8 (some 0), rv 0 (some 0), rv 3 (some 0), iv (nI i)] [iv A, iv A] h_340 _ _ _
  refine r_icmp_eq 604 346 d_101_343 (by decide) rfl (fun c_343 => ?_) (fun c_343 => absurd rfl c_343)
  exact nx h_340 S' sg1 (RC_MF q2 p3) p2 v' (((p3 8 rfl).2.1 0).trans e8x)
theorem lo_full {h : AH} {S : SS} {sg : Nat → Nat} {L i n : Nat} (c : RC h S) (m : RM h S sg) (v : IV S) (e8 : hL h 8 0 = L) (hi : i + 4 ≤ L) (nx : ∀ h' S' sg', RC h' S' → RM h' S' sg' → IV S' → hL h' 8 0 = L → TT 101 604 [rv 8 (some 0), rv 0 (some 0), rv 3 (some 0), iv (nI i)] [] h' (2 * n) (10 * n) (fun r _ => r = some (iv 1))) : TT 101 348 [rv 8 (some 0), rv 0 (some 0), rv 3 (some 0), iv (nI i)] [] h (2 + (0 + 2 * n)) (10 + (0 + 10 * n)) (fun r _ => r = some (iv 1)) := by
  obtain ⟨A, S', v', hC, hM⟩ := jo_full (sg := sg) c v 
  refine r_aload_n 349 d_101_348 rfl rfl ?_
  refine r_callV (k1 := 2) (n1 := 10) (k := 0 + 2 * n) (n := 0 + 10 * n) 352 47 0 [] d_101_349 rfl mk_47 lk_4_41 mv_47 rfl rfl rfl rfl rfl _ hC ?_
  intro r_349 h_349 q_349
  obtain ⟨q1, q2, q3⟩ := q_349
  subst q1
  have f8 := q3 8 rfl
  have e8x : hL h_349 8 0 = L := (f8.2.1 0).trans e8
  have g8 : ∀ k, hI h_349 8 0 k = hI h 8 0 k := fun k => f8.2.2.1 0 k
  show TT 101 352 [rv 8 (some 0), rv 0 (some 0), rv 3 (some 0), iv (nI i)] [iv A] h_349 _ _ _
  refine r_aload_n 353 d_101_352 rfl rfl ?_
  refine r_callV (k1 := 0) (n1 := 0) (k := 2 * n) (n := 10 * n) 356 80 3 [] d_101_353 rfl mk_80 lk_4_45 mv_80 rfl rfl rfl rfl rfl _ (hM h_349 (RX_CF m q3)) ?_
  intro r_353 h_353 q_353
  obtain ⟨p1, ⟨sg1, p2⟩, p3⟩ := q_353
  subst p1
  show TT 101 356 [rv 8 (some 0), rv 0 (some 0), rv 3 (some 0), iv (nI i)] [iv A, iv A] h_353 _ _ _
  refine r_icmp_eq 604 359 d_101_356 (by decide) rfl (fun c_356 => ?_) (fun c_356 => absurd rfl c_356)
  exact nx h_353 S' sg1 (RC_MF q2 p3) p2 v' (((p3 8 rfl).2.1 0).trans e8x)
theorem lo_mark {h : AH} {S : SS} {sg : Nat → Nat} {L i n : Nat} (c : RC h S) (m : RM h S sg) (v : IV S) (e8 : hL h 8 0 = L) (hi : i + 4 ≤ L) (nx : ∀ h' S' sg', RC h' S' → RM h' S' sg' → IV S' → hL h' 8 0 = L → TT 101 604 [rv 8 (some 0), rv 0 (some 0), rv 3 (some 0), iv (nI i)] [] h' (2 * n) (10 * n) (fun r _ => r = some (iv 1))) : TT 101 361 [rv 8 (some 0), rv 0 (some 0), rv 3 (some 0), iv (nI i)] [] h (2 + (0 + 2 * n)) (10 + (0 + 10 * n)) (fun r _ => r = some (iv 1)) := by
  obtain ⟨A, S', v', hC, hM⟩ := jo_mark (sg := sg) c v 
  refine r_aload_n 362 d_101_361 rfl rfl ?_
  refine r_callV (k1 := 2) (n1 := 10) (k := 0 + 2 * n) (n := 0 + 10 * n) 365 43 0 [] d_101_362 rfl mk_43 lk_4_46 mv_43 rfl rfl rfl rfl rfl _ hC ?_
  intro r_362 h_362 q_362
  obtain ⟨q1, q2, q3⟩ := q_362
  subst q1
  have f8 := q3 8 rfl
  have e8x : hL h_362 8 0 = L := (f8.2.1 0).trans e8
  have g8 : ∀ k, hI h_362 8 0 k = hI h 8 0 k := fun k => f8.2.2.1 0 k
  show TT 101 365 [rv 8 (some 0), rv 0 (some 0), rv 3 (some 0), iv (nI i)] [iv A] h_362 _ _ _
  refine r_aload_n 366 d_101_365 rfl rfl ?_
  refine r_callV (k1 := 0) (n1 := 0) (k := 2 * n) (n := 10 * n) 369 65 3 [] d_101_366 rfl mk_65 lk_4_49 mv_65 rfl rfl rfl rfl rfl _ (hM h_362 (RX_CF m q3)) ?_
  intro r_366 h_366 q_366
  obtain ⟨p1, ⟨sg1, p2⟩, p3⟩ := q_366
  subst p1
  show TT 101 369 [rv 8 (some 0), rv 0 (some 0), rv 3 (some 0), iv (nI i)] [iv A, iv A] h_366 _ _ _
  refine r_icmp_eq 604 372 d_101_369 (by decide) rfl (fun c_369 => ?_) (fun c_369 => absurd rfl c_369)
  exact nx h_366 S' sg1 (RC_MF q2 p3) p2 v' (((p3 8 rfl).2.1 0).trans e8x)
theorem lo_chosen {h : AH} {S : SS} {sg : Nat → Nat} {L i n : Nat} (c : RC h S) (m : RM h S sg) (v : IV S) (e8 : hL h 8 0 = L) (hi : i + 4 ≤ L) (nx : ∀ h' S' sg', RC h' S' → RM h' S' sg' → IV S' → hL h' 8 0 = L → TT 101 604 [rv 8 (some 0), rv 0 (some 0), rv 3 (some 0), iv (nI i)] [] h' (2 * n) (10 * n) (fun r _ => r = some (iv 1))) : TT 101 374 [rv 8 (some 0), rv 0 (some 0), rv 3 (some 0), iv (nI i)] [] h (2 + (0 + 2 * n)) (10 + (0 + 10 * n)) (fun r _ => r = some (iv 1)) := by
  obtain ⟨A, S', v', hC, hM⟩ := jo_chosen (sg := sg) c v (hI h 8 0 (i + 1))
  refine r_aload_n 375 d_101_374 rfl rfl ?_
  refine r_aload_n 376 d_101_375 rfl rfl ?_
  refine r_iload_n 377 d_101_376 rfl rfl ?_
  refine r_iconst 378 (nI 1) d_101_377 rfl (by decide) ?_
  refine r_iadd 379 (nI (i + 1)) d_101_378 rfl (nI_add _ _) ?_
  refine r_sald 380 (i + 1) (hI h 8 0 (i + 1)) d_101_379 rfl rfl (by omega) rfl ?_
  refine r_callV (k1 := 2) (n1 := 10) (k := 0 + 2 * n) (n := 0 + 10 * n) 383 37 0 [iv (hI h 8 0 (i + 1))] d_101_380 rfl mk_37 lk_4_50 mv_37 rfl rfl rfl rfl rfl _ hC ?_
  intro r_380 h_380 q_380
  obtain ⟨q1, q2, q3⟩ := q_380
  subst q1
  have f8 := q3 8 rfl
  have e8x : hL h_380 8 0 = L := (f8.2.1 0).trans e8
  have g8 : ∀ k, hI h_380 8 0 k = hI h 8 0 k := fun k => f8.2.2.1 0 k
  show TT 101 383 [rv 8 (some 0), rv 0 (some 0), rv 3 (some 0), iv (nI i)] [iv A] h_380 _ _ _
  refine r_aload_n 384 d_101_383 rfl rfl ?_
  refine r_aload_n 385 d_101_384 rfl rfl ?_
  refine r_iload_n 386 d_101_385 rfl rfl ?_
  refine r_iconst 387 (nI 1) d_101_386 rfl (by decide) ?_
  refine r_iadd 388 (nI (i + 1)) d_101_387 rfl (nI_add _ _) ?_
  refine r_sald 389 (i + 1) (hI h 8 0 (i + 1)) d_101_388 rfl rfl (by omega) (g8 _) ?_
  refine r_callV (k1 := 0) (n1 := 0) (k := 2 * n) (n := 10 * n) 392 71 3 [iv (hI h 8 0 (i + 1))] d_101_389 rfl mk_71 lk_4_53 mv_71 rfl rfl rfl rfl rfl _ (hM h_380 (RX_CF m q3)) ?_
  intro r_389 h_389 q_389
  obtain ⟨p1, ⟨sg1, p2⟩, p3⟩ := q_389
  subst p1
  show TT 101 392 [rv 8 (some 0), rv 0 (some 0), rv 3 (some 0), iv (nI i)] [iv A, iv A] h_389 _ _ _
  refine r_icmp_eq 604 395 d_101_392 (by decide) rfl (fun c_392 => ?_) (fun c_392 => absurd rfl c_392)
  exact nx h_389 S' sg1 (RC_MF q2 p3) p2 v' (((p3 8 rfl).2.1 0).trans e8x)
theorem lo_serial {h : AH} {S : SS} {sg : Nat → Nat} {L i n : Nat} (c : RC h S) (m : RM h S sg) (v : IV S) (e8 : hL h 8 0 = L) (hi : i + 4 ≤ L) (nx : ∀ h' S' sg', RC h' S' → RM h' S' sg' → IV S' → hL h' 8 0 = L → TT 101 604 [rv 8 (some 0), rv 0 (some 0), rv 3 (some 0), iv (nI i)] [] h' (2 * n) (10 * n) (fun r _ => r = some (iv 1))) : TT 101 397 [rv 8 (some 0), rv 0 (some 0), rv 3 (some 0), iv (nI i)] [] h (2 + (0 + 2 * n)) (10 + (0 + 10 * n)) (fun r _ => r = some (iv 1)) := by
  obtain ⟨A, S', v', hC, hM⟩ := jo_serial (sg := sg) c v (hI h 8 0 (i + 1))
  refine r_aload_n 398 d_101_397 rfl rfl ?_
  refine r_aload_n 399 d_101_398 rfl rfl ?_
  refine r_iload_n 400 d_101_399 rfl rfl ?_
  refine r_iconst 401 (nI 1) d_101_400 rfl (by decide) ?_
  refine r_iadd 402 (nI (i + 1)) d_101_401 rfl (nI_add _ _) ?_
  refine r_sald 403 (i + 1) (hI h 8 0 (i + 1)) d_101_402 rfl rfl (by omega) rfl ?_
  refine r_callV (k1 := 2) (n1 := 10) (k := 0 + 2 * n) (n := 0 + 10 * n) 406 52 0 [iv (hI h 8 0 (i + 1))] d_101_403 rfl mk_52 lk_4_54 mv_52 rfl rfl rfl rfl rfl _ hC ?_
  intro r_403 h_403 q_403
  obtain ⟨q1, q2, q3⟩ := q_403
  subst q1
  have f8 := q3 8 rfl
  have e8x : hL h_403 8 0 = L := (f8.2.1 0).trans e8
  have g8 : ∀ k, hI h_403 8 0 k = hI h 8 0 k := fun k => f8.2.2.1 0 k
  show TT 101 406 [rv 8 (some 0), rv 0 (some 0), rv 3 (some 0), iv (nI i)] [iv A] h_403 _ _ _
  refine r_aload_n 407 d_101_406 rfl rfl ?_
  refine r_aload_n 408 d_101_407 rfl rfl ?_
  refine r_iload_n 409 d_101_408 rfl rfl ?_
  refine r_iconst 410 (nI 1) d_101_409 rfl (by decide) ?_
  refine r_iadd 411 (nI (i + 1)) d_101_410 rfl (nI_add _ _) ?_
  refine r_sald 412 (i + 1) (hI h 8 0 (i + 1)) d_101_411 rfl rfl (by omega) (g8 _) ?_
  refine r_callV (k1 := 0) (n1 := 0) (k := 2 * n) (n := 10 * n) 415 92 3 [iv (hI h 8 0 (i + 1))] d_101_412 rfl mk_92 lk_4_57 mv_92 rfl rfl rfl rfl rfl _ (hM h_403 (RX_CF m q3)) ?_
  intro r_412 h_412 q_412
  obtain ⟨p1, ⟨sg1, p2⟩, p3⟩ := q_412
  subst p1
  show TT 101 415 [rv 8 (some 0), rv 0 (some 0), rv 3 (some 0), iv (nI i)] [iv A, iv A] h_412 _ _ _
  refine r_icmp_eq 604 418 d_101_415 (by decide) rfl (fun c_415 => ?_) (fun c_415 => absurd rfl c_415)
  exact nx h_412 S' sg1 (RC_MF q2 p3) p2 v' (((p3 8 rfl).2.1 0).trans e8x)
theorem lo_region {h : AH} {S : SS} {sg : Nat → Nat} {L i n : Nat} (c : RC h S) (m : RM h S sg) (v : IV S) (e8 : hL h 8 0 = L) (hi : i + 4 ≤ L) (nx : ∀ h' S' sg', RC h' S' → RM h' S' sg' → IV S' → hL h' 8 0 = L → TT 101 604 [rv 8 (some 0), rv 0 (some 0), rv 3 (some 0), iv (nI i)] [] h' (2 * n) (10 * n) (fun r _ => r = some (iv 1))) : TT 101 420 [rv 8 (some 0), rv 0 (some 0), rv 3 (some 0), iv (nI i)] [] h (2 + (0 + 2 * n)) (10 + (0 + 10 * n)) (fun r _ => r = some (iv 1)) := by
  obtain ⟨A, S', v', hC, hM⟩ := jo_region (sg := sg) c v (hI h 8 0 (i + 1))
  refine r_aload_n 421 d_101_420 rfl rfl ?_
  refine r_aload_n 422 d_101_421 rfl rfl ?_
  refine r_iload_n 423 d_101_422 rfl rfl ?_
  refine r_iconst 424 (nI 1) d_101_423 rfl (by decide) ?_
  refine r_iadd 425 (nI (i + 1)) d_101_424 rfl (nI_add _ _) ?_
  refine r_sald 426 (i + 1) (hI h 8 0 (i + 1)) d_101_425 rfl rfl (by omega) rfl ?_
  refine r_callV (k1 := 2) (n1 := 10) (k := 0 + 2 * n) (n := 0 + 10 * n) 429 53 0 [iv (hI h 8 0 (i + 1))] d_101_426 rfl mk_53 lk_4_58 mv_53 rfl rfl rfl rfl rfl _ hC ?_
  intro r_426 h_426 q_426
  obtain ⟨q1, q2, q3⟩ := q_426
  subst q1
  have f8 := q3 8 rfl
  have e8x : hL h_426 8 0 = L := (f8.2.1 0).trans e8
  have g8 : ∀ k, hI h_426 8 0 k = hI h 8 0 k := fun k => f8.2.2.1 0 k
  show TT 101 429 [rv 8 (some 0), rv 0 (some 0), rv 3 (some 0), iv (nI i)] [iv A] h_426 _ _ _
  refine r_aload_n 430 d_101_429 rfl rfl ?_
  refine r_aload_n 431 d_101_430 rfl rfl ?_
  refine r_iload_n 432 d_101_431 rfl rfl ?_
  refine r_iconst 433 (nI 1) d_101_432 rfl (by decide) ?_
  refine r_iadd 434 (nI (i + 1)) d_101_433 rfl (nI_add _ _) ?_
  refine r_sald 435 (i + 1) (hI h 8 0 (i + 1)) d_101_434 rfl rfl (by omega) (g8 _) ?_
  refine r_callV (k1 := 0) (n1 := 0) (k := 2 * n) (n := 10 * n) 438 93 3 [iv (hI h 8 0 (i + 1))] d_101_435 rfl mk_93 lk_4_61 mv_93 rfl rfl rfl rfl rfl _ (hM h_426 (RX_CF m q3)) ?_
  intro r_435 h_435 q_435
  obtain ⟨p1, ⟨sg1, p2⟩, p3⟩ := q_435
  subst p1
  show TT 101 438 [rv 8 (some 0), rv 0 (some 0), rv 3 (some 0), iv (nI i)] [iv A, iv A] h_435 _ _ _
  refine r_icmp_eq 604 441 d_101_438 (by decide) rfl (fun c_438 => ?_) (fun c_438 => absurd rfl c_438)
  exact nx h_435 S' sg1 (RC_MF q2 p3) p2 v' (((p3 8 rfl).2.1 0).trans e8x)
theorem lo_offset {h : AH} {S : SS} {sg : Nat → Nat} {L i n : Nat} (c : RC h S) (m : RM h S sg) (v : IV S) (e8 : hL h 8 0 = L) (hi : i + 4 ≤ L) (nx : ∀ h' S' sg', RC h' S' → RM h' S' sg' → IV S' → hL h' 8 0 = L → TT 101 604 [rv 8 (some 0), rv 0 (some 0), rv 3 (some 0), iv (nI i)] [] h' (2 * n) (10 * n) (fun r _ => r = some (iv 1))) : TT 101 443 [rv 8 (some 0), rv 0 (some 0), rv 3 (some 0), iv (nI i)] [] h (2 + (0 + 2 * n)) (10 + (0 + 10 * n)) (fun r _ => r = some (iv 1)) := by
  obtain ⟨A, S', v', hC, hM⟩ := jo_offset (sg := sg) c v (hI h 8 0 (i + 1))
  refine r_aload_n 444 d_101_443 rfl rfl ?_
  refine r_aload_n 445 d_101_444 rfl rfl ?_
  refine r_iload_n 446 d_101_445 rfl rfl ?_
  refine r_iconst 447 (nI 1) d_101_446 rfl (by decide) ?_
  refine r_iadd 448 (nI (i + 1)) d_101_447 rfl (nI_add _ _) ?_
  refine r_sald 449 (i + 1) (hI h 8 0 (i + 1)) d_101_448 rfl rfl (by omega) rfl ?_
  refine r_callV (k1 := 2) (n1 := 10) (k := 0 + 2 * n) (n := 0 + 10 * n) 452 54 0 [iv (hI h 8 0 (i + 1))] d_101_449 rfl mk_54 lk_4_62 mv_54 rfl rfl rfl rfl rfl _ hC ?_
  intro r_449 h_449 q_449
  obtain ⟨q1, q2, q3⟩ := q_449
  subst q1
  have f8 := q3 8 rfl
  have e8x : hL h_449 8 0 = L := (f8.2.1 0).trans e8
  have g8 : ∀ k, hI h_449 8 0 k = hI h 8 0 k := fun k => f8.2.2.1 0 k
  show TT 101 452 [rv 8 (some 0), rv 0 (some 0), rv 3 (some 0), iv (nI i)] [iv A] h_449 _ _ _
  refine r_aload_n 453 d_101_452 rfl rfl ?_
  refine r_aload_n 454 d_101_453 rfl rfl ?_
  refine r_iload_n 455 d_101_454 rfl rfl ?_
  refine r_iconst 456 (nI 1) d_101_455 rfl (by decide) ?_
  refine r_iadd 457 (nI (i + 1)) d_101_456 rfl (nI_add _ _) ?_
  refine r_sald 458 (i + 1) (hI h 8 0 (i + 1)) d_101_457 rfl rfl (by omega) (g8 _) ?_
  refine r_callV (k1 := 0) (n1 := 0) (k := 2 * n) (n := 10 * n) 461 94 3 [iv (hI h 8 0 (i + 1))] d_101_458 rfl mk_94 lk_4_65 mv_94 rfl rfl rfl rfl rfl _ (hM h_449 (RX_CF m q3)) ?_
  intro r_458 h_458 q_458
  obtain ⟨p1, ⟨sg1, p2⟩, p3⟩ := q_458
  subst p1
  show TT 101 461 [rv 8 (some 0), rv 0 (some 0), rv 3 (some 0), iv (nI i)] [iv A, iv A] h_458 _ _ _
  refine r_icmp_eq 604 464 d_101_461 (by decide) rfl (fun c_461 => ?_) (fun c_461 => absurd rfl c_461)
  exact nx h_458 S' sg1 (RC_MF q2 p3) p2 v' (((p3 8 rfl).2.1 0).trans e8x)
theorem lo_size {h : AH} {S : SS} {sg : Nat → Nat} {L i n : Nat} (c : RC h S) (m : RM h S sg) (v : IV S) (e8 : hL h 8 0 = L) (hi : i + 4 ≤ L) (nx : ∀ h' S' sg', RC h' S' → RM h' S' sg' → IV S' → hL h' 8 0 = L → TT 101 604 [rv 8 (some 0), rv 0 (some 0), rv 3 (some 0), iv (nI i)] [] h' (2 * n) (10 * n) (fun r _ => r = some (iv 1))) : TT 101 466 [rv 8 (some 0), rv 0 (some 0), rv 3 (some 0), iv (nI i)] [] h (2 + (0 + 2 * n)) (10 + (0 + 10 * n)) (fun r _ => r = some (iv 1)) := by
  obtain ⟨A, S', v', hC, hM⟩ := jo_size (sg := sg) c v (hI h 8 0 (i + 1))
  refine r_aload_n 467 d_101_466 rfl rfl ?_
  refine r_aload_n 468 d_101_467 rfl rfl ?_
  refine r_iload_n 469 d_101_468 rfl rfl ?_
  refine r_iconst 470 (nI 1) d_101_469 rfl (by decide) ?_
  refine r_iadd 471 (nI (i + 1)) d_101_470 rfl (nI_add _ _) ?_
  refine r_sald 472 (i + 1) (hI h 8 0 (i + 1)) d_101_471 rfl rfl (by omega) rfl ?_
  refine r_callV (k1 := 2) (n1 := 10) (k := 0 + 2 * n) (n := 0 + 10 * n) 475 55 0 [iv (hI h 8 0 (i + 1))] d_101_472 rfl mk_55 lk_4_66 mv_55 rfl rfl rfl rfl rfl _ hC ?_
  intro r_472 h_472 q_472
  obtain ⟨q1, q2, q3⟩ := q_472
  subst q1
  have f8 := q3 8 rfl
  have e8x : hL h_472 8 0 = L := (f8.2.1 0).trans e8
  have g8 : ∀ k, hI h_472 8 0 k = hI h 8 0 k := fun k => f8.2.2.1 0 k
  show TT 101 475 [rv 8 (some 0), rv 0 (some 0), rv 3 (some 0), iv (nI i)] [iv A] h_472 _ _ _
  refine r_aload_n 476 d_101_475 rfl rfl ?_
  refine r_aload_n 477 d_101_476 rfl rfl ?_
  refine r_iload_n 478 d_101_477 rfl rfl ?_
  refine r_iconst 479 (nI 1) d_101_478 rfl (by decide) ?_
  refine r_iadd 480 (nI (i + 1)) d_101_479 rfl (nI_add _ _) ?_
  refine r_sald 481 (i + 1) (hI h 8 0 (i + 1)) d_101_480 rfl rfl (by omega) (g8 _) ?_
  refine r_callV (k1 := 0) (n1 := 0) (k := 2 * n) (n := 10 * n) 484 95 3 [iv (hI h 8 0 (i + 1))] d_101_481 rfl mk_95 lk_4_69 mv_95 rfl rfl rfl rfl rfl _ (hM h_472 (RX_CF m q3)) ?_
  intro r_481 h_481 q_481
  obtain ⟨p1, ⟨sg1, p2⟩, p3⟩ := q_481
  subst p1
  show TT 101 484 [rv 8 (some 0), rv 0 (some 0), rv 3 (some 0), iv (nI i)] [iv A, iv A] h_481 _ _ _
  refine r_icmp_eq 604 487 d_101_484 (by decide) rfl (fun c_484 => ?_) (fun c_484 => absurd rfl c_484)
  exact nx h_481 S' sg1 (RC_MF q2 p3) p2 v' (((p3 8 rfl).2.1 0).trans e8x)
theorem lo_kind {h : AH} {S : SS} {sg : Nat → Nat} {L i n : Nat} (c : RC h S) (m : RM h S sg) (v : IV S) (e8 : hL h 8 0 = L) (hi : i + 4 ≤ L) (nx : ∀ h' S' sg', RC h' S' → RM h' S' sg' → IV S' → hL h' 8 0 = L → TT 101 604 [rv 8 (some 0), rv 0 (some 0), rv 3 (some 0), iv (nI i)] [] h' (2 * n) (10 * n) (fun r _ => r = some (iv 1))) : TT 101 489 [rv 8 (some 0), rv 0 (some 0), rv 3 (some 0), iv (nI i)] [] h (2 + (0 + 2 * n)) (10 + (0 + 10 * n)) (fun r _ => r = some (iv 1)) := by
  obtain ⟨A, S', v', hC, hM⟩ := jo_kind (sg := sg) c v (hI h 8 0 (i + 1))
  refine r_aload_n 490 d_101_489 rfl rfl ?_
  refine r_aload_n 491 d_101_490 rfl rfl ?_
  refine r_iload_n 492 d_101_491 rfl rfl ?_
  refine r_iconst 493 (nI 1) d_101_492 rfl (by decide) ?_
  refine r_iadd 494 (nI (i + 1)) d_101_493 rfl (nI_add _ _) ?_
  refine r_sald 495 (i + 1) (hI h 8 0 (i + 1)) d_101_494 rfl rfl (by omega) rfl ?_
  refine r_callV (k1 := 2) (n1 := 10) (k := 0 + 2 * n) (n := 0 + 10 * n) 498 56 0 [iv (hI h 8 0 (i + 1))] d_101_495 rfl mk_56 lk_4_70 mv_56 rfl rfl rfl rfl rfl _ hC ?_
  intro r_495 h_495 q_495
  obtain ⟨q1, q2, q3⟩ := q_495
  subst q1
  have f8 := q3 8 rfl
  have e8x : hL h_495 8 0 = L := (f8.2.1 0).trans e8
  have g8 : ∀ k, hI h_495 8 0 k = hI h 8 0 k := fun k => f8.2.2.1 0 k
  show TT 101 498 [rv 8 (some 0), rv 0 (some 0), rv 3 (some 0), iv (nI i)] [iv A] h_495 _ _ _
  refine r_aload_n 499 d_101_498 rfl rfl ?_
  refine r_aload_n 500 d_101_499 rfl rfl ?_
  refine r_iload_n 501 d_101_500 rfl rfl ?_
  refine r_iconst 502 (nI 1) d_101_501 rfl (by decide) ?_
  refine r_iadd 503 (nI (i + 1)) d_101_502 rfl (nI_add _ _) ?_
  refine r_sald 504 (i + 1) (hI h 8 0 (i + 1)) d_101_503 rfl rfl (by omega) (g8 _) ?_
  refine r_callV (k1 := 0) (n1 := 0) (k := 2 * n) (n := 10 * n) 507 96 3 [iv (hI h 8 0 (i + 1))] d_101_504 rfl mk_96 lk_4_73 mv_96 rfl rfl rfl rfl rfl _ (hM h_495 (RX_CF m q3)) ?_
  intro r_504 h_504 q_504
  obtain ⟨p1, ⟨sg1, p2⟩, p3⟩ := q_504
  subst p1
  show TT 101 507 [rv 8 (some 0), rv 0 (some 0), rv 3 (some 0), iv (nI i)] [iv A, iv A] h_504 _ _ _
  refine r_icmp_eq 604 510 d_101_507 (by decide) rfl (fun c_507 => ?_) (fun c_507 => absurd rfl c_507)
  exact nx h_504 S' sg1 (RC_MF q2 p3) p2 v' (((p3 8 rfl).2.1 0).trans e8x)
theorem lo_used {h : AH} {S : SS} {sg : Nat → Nat} {L i n : Nat} (c : RC h S) (m : RM h S sg) (v : IV S) (e8 : hL h 8 0 = L) (hi : i + 4 ≤ L) (nx : ∀ h' S' sg', RC h' S' → RM h' S' sg' → IV S' → hL h' 8 0 = L → TT 101 604 [rv 8 (some 0), rv 0 (some 0), rv 3 (some 0), iv (nI i)] [] h' (2 * n) (10 * n) (fun r _ => r = some (iv 1))) : TT 101 512 [rv 8 (some 0), rv 0 (some 0), rv 3 (some 0), iv (nI i)] [] h (2 + (0 + 2 * n)) (10 + (0 + 10 * n)) (fun r _ => r = some (iv 1)) := by
  obtain ⟨A, S', v', hC, hM⟩ := jo_used (sg := sg) c v (hI h 8 0 (i + 1))
  refine r_aload_n 513 d_101_512 rfl rfl ?_
  refine r_aload_n 514 d_101_513 rfl rfl ?_
  refine r_iload_n 515 d_101_514 rfl rfl ?_
  refine r_iconst 516 (nI 1) d_101_515 rfl (by decide) ?_
  refine r_iadd 517 (nI (i + 1)) d_101_516 rfl (nI_add _ _) ?_
  refine r_sald 518 (i + 1) (hI h 8 0 (i + 1)) d_101_517 rfl rfl (by omega) rfl ?_
  refine r_callV (k1 := 2) (n1 := 10) (k := 0 + 2 * n) (n := 0 + 10 * n) 521 57 0 [iv (hI h 8 0 (i + 1))] d_101_518 rfl mk_57 lk_4_74 mv_57 rfl rfl rfl rfl rfl _ hC ?_
  intro r_518 h_518 q_518
  obtain ⟨q1, q2, q3⟩ := q_518
  subst q1
  have f8 := q3 8 rfl
  have e8x : hL h_518 8 0 = L := (f8.2.1 0).trans e8
  have g8 : ∀ k, hI h_518 8 0 k = hI h 8 0 k := fun k => f8.2.2.1 0 k
  show TT 101 521 [rv 8 (some 0), rv 0 (some 0), rv 3 (some 0), iv (nI i)] [iv A] h_518 _ _ _
  refine r_aload_n 522 d_101_521 rfl rfl ?_
  refine r_aload_n 523 d_101_522 rfl rfl ?_
  refine r_iload_n 524 d_101_523 rfl rfl ?_
  refine r_iconst 525 (nI 1) d_101_524 rfl (by decide) ?_
  refine r_iadd 526 (nI (i + 1)) d_101_525 rfl (nI_add _ _) ?_
  refine r_sald 527 (i + 1) (hI h 8 0 (i + 1)) d_101_526 rfl rfl (by omega) (g8 _) ?_
  refine r_callV (k1 := 0) (n1 := 0) (k := 2 * n) (n := 10 * n) 530 97 3 [iv (hI h 8 0 (i + 1))] d_101_527 rfl mk_97 lk_4_77 mv_97 rfl rfl rfl rfl rfl _ (hM h_518 (RX_CF m q3)) ?_
  intro r_527 h_527 q_527
  obtain ⟨p1, ⟨sg1, p2⟩, p3⟩ := q_527
  subst p1
  show TT 101 530 [rv 8 (some 0), rv 0 (some 0), rv 3 (some 0), iv (nI i)] [iv A, iv A] h_527 _ _ _
  refine r_icmp_eq 604 533 d_101_530 (by decide) rfl (fun c_530 => ?_) (fun c_530 => absurd rfl c_530)
  exact nx h_527 S' sg1 (RC_MF q2 p3) p2 v' (((p3 8 rfl).2.1 0).trans e8x)
theorem lo_live {h : AH} {S : SS} {sg : Nat → Nat} {L i n : Nat} (c : RC h S) (m : RM h S sg) (v : IV S) (e8 : hL h 8 0 = L) (hi : i + 4 ≤ L) (nx : ∀ h' S' sg', RC h' S' → RM h' S' sg' → IV S' → hL h' 8 0 = L → TT 101 604 [rv 8 (some 0), rv 0 (some 0), rv 3 (some 0), iv (nI i)] [] h' (2 * n) (10 * n) (fun r _ => r = some (iv 1))) : TT 101 535 [rv 8 (some 0), rv 0 (some 0), rv 3 (some 0), iv (nI i)] [] h (2 + (0 + 2 * n)) (10 + (0 + 10 * n)) (fun r _ => r = some (iv 1)) := by
  obtain ⟨A, S', v', hC, hM⟩ := jo_live (sg := sg) c v (hI h 8 0 (i + 1))
  refine r_aload_n 536 d_101_535 rfl rfl ?_
  refine r_aload_n 537 d_101_536 rfl rfl ?_
  refine r_iload_n 538 d_101_537 rfl rfl ?_
  refine r_iconst 539 (nI 1) d_101_538 rfl (by decide) ?_
  refine r_iadd 540 (nI (i + 1)) d_101_539 rfl (nI_add _ _) ?_
  refine r_sald 541 (i + 1) (hI h 8 0 (i + 1)) d_101_540 rfl rfl (by omega) rfl ?_
  refine r_callV (k1 := 2) (n1 := 10) (k := 0 + 2 * n) (n := 0 + 10 * n) 544 58 0 [iv (hI h 8 0 (i + 1))] d_101_541 rfl mk_58 lk_4_78 mv_58 rfl rfl rfl rfl rfl _ hC ?_
  intro r_541 h_541 q_541
  obtain ⟨q1, q2, q3⟩ := q_541
  subst q1
  have f8 := q3 8 rfl
  have e8x : hL h_541 8 0 = L := (f8.2.1 0).trans e8
  have g8 : ∀ k, hI h_541 8 0 k = hI h 8 0 k := fun k => f8.2.2.1 0 k
  show TT 101 544 [rv 8 (some 0), rv 0 (some 0), rv 3 (some 0), iv (nI i)] [iv A] h_541 _ _ _
  refine r_aload_n 545 d_101_544 rfl rfl ?_
  refine r_aload_n 546 d_101_545 rfl rfl ?_
  refine r_iload_n 547 d_101_546 rfl rfl ?_
  refine r_iconst 548 (nI 1) d_101_547 rfl (by decide) ?_
  refine r_iadd 549 (nI (i + 1)) d_101_548 rfl (nI_add _ _) ?_
  refine r_sald 550 (i + 1) (hI h 8 0 (i + 1)) d_101_549 rfl rfl (by omega) (g8 _) ?_
  refine r_callV (k1 := 0) (n1 := 0) (k := 2 * n) (n := 10 * n) 553 98 3 [iv (hI h 8 0 (i + 1))] d_101_550 rfl mk_98 lk_4_81 mv_98 rfl rfl rfl rfl rfl _ (hM h_541 (RX_CF m q3)) ?_
  intro r_550 h_550 q_550
  obtain ⟨p1, ⟨sg1, p2⟩, p3⟩ := q_550
  subst p1
  show TT 101 553 [rv 8 (some 0), rv 0 (some 0), rv 3 (some 0), iv (nI i)] [iv A, iv A] h_550 _ _ _
  refine r_icmp_eq 604 556 d_101_553 (by decide) rfl (fun c_553 => ?_) (fun c_553 => absurd rfl c_553)
  exact nx h_550 S' sg1 (RC_MF q2 p3) p2 v' (((p3 8 rfl).2.1 0).trans e8x)
theorem lo_incoming {h : AH} {S : SS} {sg : Nat → Nat} {L i n : Nat} (c : RC h S) (m : RM h S sg) (v : IV S) (e8 : hL h 8 0 = L) (hi : i + 4 ≤ L) (nx : ∀ h' S' sg', RC h' S' → RM h' S' sg' → IV S' → hL h' 8 0 = L → TT 101 604 [rv 8 (some 0), rv 0 (some 0), rv 3 (some 0), iv (nI i)] [] h' (2 * n) (10 * n) (fun r _ => r = some (iv 1))) : TT 101 558 [rv 8 (some 0), rv 0 (some 0), rv 3 (some 0), iv (nI i)] [] h (2 + (0 + 2 * n)) (10 + (0 + 10 * n)) (fun r _ => r = some (iv 1)) := by
  obtain ⟨A, S', v', hC, hM⟩ := jo_incoming (sg := sg) c v (hI h 8 0 (i + 1))
  refine r_aload_n 559 d_101_558 rfl rfl ?_
  refine r_aload_n 560 d_101_559 rfl rfl ?_
  refine r_iload_n 561 d_101_560 rfl rfl ?_
  refine r_iconst 562 (nI 1) d_101_561 rfl (by decide) ?_
  refine r_iadd 563 (nI (i + 1)) d_101_562 rfl (nI_add _ _) ?_
  refine r_sald 564 (i + 1) (hI h 8 0 (i + 1)) d_101_563 rfl rfl (by omega) rfl ?_
  refine r_callV (k1 := 2) (n1 := 10) (k := 0 + 2 * n) (n := 0 + 10 * n) 567 59 0 [iv (hI h 8 0 (i + 1))] d_101_564 rfl mk_59 lk_4_82 mv_59 rfl rfl rfl rfl rfl _ hC ?_
  intro r_564 h_564 q_564
  obtain ⟨q1, q2, q3⟩ := q_564
  subst q1
  have f8 := q3 8 rfl
  have e8x : hL h_564 8 0 = L := (f8.2.1 0).trans e8
  have g8 : ∀ k, hI h_564 8 0 k = hI h 8 0 k := fun k => f8.2.2.1 0 k
  show TT 101 567 [rv 8 (some 0), rv 0 (some 0), rv 3 (some 0), iv (nI i)] [iv A] h_564 _ _ _
  refine r_aload_n 568 d_101_567 rfl rfl ?_
  refine r_aload_n 569 d_101_568 rfl rfl ?_
  refine r_iload_n 570 d_101_569 rfl rfl ?_
  refine r_iconst 571 (nI 1) d_101_570 rfl (by decide) ?_
  refine r_iadd 572 (nI (i + 1)) d_101_571 rfl (nI_add _ _) ?_
  refine r_sald 573 (i + 1) (hI h 8 0 (i + 1)) d_101_572 rfl rfl (by omega) (g8 _) ?_
  refine r_callV (k1 := 0) (n1 := 0) (k := 2 * n) (n := 10 * n) 576 99 3 [iv (hI h 8 0 (i + 1))] d_101_573 rfl mk_99 lk_4_85 mv_99 rfl rfl rfl rfl rfl _ (hM h_564 (RX_CF m q3)) ?_
  intro r_573 h_573 q_573
  obtain ⟨p1, ⟨sg1, p2⟩, p3⟩ := q_573
  subst p1
  show TT 101 576 [rv 8 (some 0), rv 0 (some 0), rv 3 (some 0), iv (nI i)] [iv A, iv A] h_573 _ _ _
  refine r_icmp_eq 604 579 d_101_576 (by decide) rfl (fun c_576 => ?_) (fun c_576 => absurd rfl c_576)
  exact nx h_573 S' sg1 (RC_MF q2 p3) p2 v' (((p3 8 rfl).2.1 0).trans e8x)
theorem lo_count {h : AH} {S : SS} {sg : Nat → Nat} {L i n : Nat} (c : RC h S) (m : RM h S sg) (v : IV S) (e8 : hL h 8 0 = L) (hi : i + 4 ≤ L) (nx : ∀ h' S' sg', RC h' S' → RM h' S' sg' → IV S' → hL h' 8 0 = L → TT 101 604 [rv 8 (some 0), rv 0 (some 0), rv 3 (some 0), iv (nI i)] [] h' (2 * n) (10 * n) (fun r _ => r = some (iv 1))) : TT 101 581 [rv 8 (some 0), rv 0 (some 0), rv 3 (some 0), iv (nI i)] [] h (2 + (0 + 2 * n)) (10 + (0 + 10 * n)) (fun r _ => r = some (iv 1)) := by
  obtain ⟨A, S', v', hC, hM⟩ := jo_count (sg := sg) c v (hI h 8 0 (i + 1))
  refine r_aload_n 582 d_101_581 rfl rfl ?_
  refine r_aload_n 583 d_101_582 rfl rfl ?_
  refine r_iload_n 584 d_101_583 rfl rfl ?_
  refine r_iconst 585 (nI 1) d_101_584 rfl (by decide) ?_
  refine r_iadd 586 (nI (i + 1)) d_101_585 rfl (nI_add _ _) ?_
  refine r_sald 587 (i + 1) (hI h 8 0 (i + 1)) d_101_586 rfl rfl (by omega) rfl ?_
  refine r_callV (k1 := 2) (n1 := 10) (k := 0 + 2 * n) (n := 0 + 10 * n) 590 60 0 [iv (hI h 8 0 (i + 1))] d_101_587 rfl mk_60 lk_4_86 mv_60 rfl rfl rfl rfl rfl _ hC ?_
  intro r_587 h_587 q_587
  obtain ⟨q1, q2, q3⟩ := q_587
  subst q1
  have f8 := q3 8 rfl
  have e8x : hL h_587 8 0 = L := (f8.2.1 0).trans e8
  have g8 : ∀ k, hI h_587 8 0 k = hI h 8 0 k := fun k => f8.2.2.1 0 k
  show TT 101 590 [rv 8 (some 0), rv 0 (some 0), rv 3 (some 0), iv (nI i)] [iv A] h_587 _ _ _
  refine r_aload_n 591 d_101_590 rfl rfl ?_
  refine r_aload_n 592 d_101_591 rfl rfl ?_
  refine r_iload_n 593 d_101_592 rfl rfl ?_
  refine r_iconst 594 (nI 1) d_101_593 rfl (by decide) ?_
  refine r_iadd 595 (nI (i + 1)) d_101_594 rfl (nI_add _ _) ?_
  refine r_sald 596 (i + 1) (hI h 8 0 (i + 1)) d_101_595 rfl rfl (by omega) (g8 _) ?_
  refine r_callV (k1 := 0) (n1 := 0) (k := 2 * n) (n := 10 * n) 599 100 3 [iv (hI h 8 0 (i + 1))] d_101_596 rfl mk_100 lk_4_89 mv_100 rfl rfl rfl rfl rfl _ (hM h_587 (RX_CF m q3)) ?_
  intro r_596 h_596 q_596
  obtain ⟨p1, ⟨sg1, p2⟩, p3⟩ := q_596
  subst p1
  show TT 101 599 [rv 8 (some 0), rv 0 (some 0), rv 3 (some 0), iv (nI i)] [iv A, iv A] h_596 _ _ _
  refine r_icmp_eq 604 602 d_101_599 (by decide) rfl (fun c_599 => ?_) (fun c_599 => absurd rfl c_599)
  exact nx h_596 S' sg1 (RC_MF q2 p3) p2 v' (((p3 8 rfl).2.1 0).trans e8x)
