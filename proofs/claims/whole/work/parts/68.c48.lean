/-! contracts of the reference: packing -/
theorem MQ_f {h h' : AH} {sg : Nat → Nat} {gl : List Nat} (q : MQu h sg gl) (e1 : hI h' 3 0 15 = hI h 3 0 15) (e2 : ∀ k, hI h' 6 13 k = hI h 6 13 k) : MQu h' sg gl := ⟨e1.trans q.1, fun i o ho => (e2 i).trans (q.2 i o ho)⟩
theorem m_pack {h : AH} {S : SS} {fl : List Nat} {sg : Nat → Nat} (v : IV S) (rl : RL S fl) (h1 : AH) (m1 : RXG h1 S (tuS S fl 12) (tuL S fl 12) sg) (q1 : MQu h1 sg (tuL S fl 12)) (mf1 : MF h h1) : TT 76 155 [rv 3 (some 0), iv (nI fl.length), un, un, un] [] h1 0 0 (fun x h' => ∃ fl, RL S fl ∧ x = some (iv (nI fl.length)) ∧ RM h' (fulS S fl) sg ∧ MF h h') := by
  have room := ful_room (S := S) (fl := fl) v
  have ri0 : ∀ r, r < 12 → RI (tuS S fl 12) r := fun r hr => tu_RI v hr
  have hqm : ∀ o, o ∈ tuL S fl 12 → o ∈ all S := fun o ho => (gl_mem v).mp ho |>.1
  have hql : (tuL S fl 12).length ≤ 96 := tuL_len v.bd 12 (Nat.le_refl _)
  generalize hQ : tuL S fl 12 = Q at m1 q1 room hqm hql
  have done : ∀ h2 T u2 u3 u4, RXG h2 S T [] sg → T = (lay 12 0 (tuS S fl 12) Q).1 → wd T = wd S → fd T = fd S → MF h h2 → TT 76 266 [rv 3 (some 0), iv (nI fl.length), u2, u3, u4] [] h2 0 0 (fun x h' => ∃ fl, RL S fl ∧ x = some (iv (nI fl.length)) ∧ RM h' (fulS S fl) sg ∧ MF h h') := by
    intro h2 T u2 u3 u4 m2 hT hw hf mf2
    refine TT.forget 2 (ls' := [rv 3 (some 0), iv (nI fl.length), un, u3, u4]) rfl ?_
    refine TT.forget 3 (ls' := [rv 3 (some 0), iv (nI fl.length), un, un, u4]) rfl ?_
    refine TT.forget 4 (ls' := [rv 3 (some 0), iv (nI fl.length), un, un, un]) rfl ?_
    have e : fulS S fl = endS T := by unfold fulS; rw [hQ, hT]
    have mE : RX (sI (sI h2 3 0 11 (-1)) 6 11 1 (nI (ct T 1 + 1))) S (endS T) sg := by
      refine RX_reg m2 (XG_sI (XG_sI (XG.rf h2) rfl) rfl) (fun r hr => ⟨?_, ?_, ?_⟩) ?_ (fun k hk => ?_) ⟨rfl, rfl, rfl⟩ ⟨rfl, rfl, rfl, rfl⟩
      · rw [w6n (by decide), wS (by decide)]; exact m2.kd hr
      · rw [w6n (by decide), wS (by decide)]; exact m2.us hr
      · rw [w6n (by decide), wS (by decide)]; exact m2.lw hr
      · rw [wS (by decide), wA, if_pos rfl]; rfl
      · rw [wA, wS (by decide)]
        exact nI_up (m2.ct hk)
    refine r_aload_n 267 d_76_266 rfl rfl ?_
    refine r_iconst 268 (-1) d_76_267 rfl (by decide) ?_
    refine r_putI 271 3 11 d_76_268 rfl fk_3_43 (Or.inl rfl) rfl rfl rfl ?_
    refine r_aload_n 272 d_76_271 rfl rfl ?_
    refine r_getR 275 3 12 6 (some 11) d_76_272 rfl fk_3_47 rfl (by decide) (MT.f12 (MT_sI m2.mt rfl)) ?_
    refine r_iconst 276 (nI 1) d_76_275 rfl (by decide) ?_
    refine r_dup2 277 d_76_276 rfl rfl rfl ?_
    refine r_iald 278 1 (nI (ct T 1)) d_76_277 rfl rfl (MT.l6_11 (MT_sI m2.mt rfl) (by decide)) ((wS (by decide)).trans (m2.ct (by decide))) ?_
    refine r_iconst 279 (nI 1) d_76_278 rfl (by decide) ?_
    refine r_iadd 280 (nI ((ct T 1) + 1)) d_76_279 rfl (nI_add (ct T 1) 1) ?_
    refine r_iast 281 1 d_76_280 rfl rfl (MT.l6_11 (MT_sI m2.mt rfl) (by decide)) ?_
    refine r_iload_n 282 d_76_281 rfl rfl ?_
    refine r_ireturn d_76_282 rfl ?_
    exact ⟨fl, rl, rfl, by rw [e]; exact RX_D mE hw hf, MF_sI (MF_sI mf2 rfl) rfl⟩
  have loop : ∀ n i gl Tc r h2 u4, i + n = Q.length → Q.drop i = gl → MQu h2 sg Q → RXG h2 S (fin1 Tc r) gl sg → PK Tc r gl → wd Tc = wd S → fd Tc = fd S → lay 12 0 (tuS S fl 12) Q = LC (11 - r) r Tc gl → MF h h2 → TT 76 163 [rv 3 (some 0), iv (nI fl.length), iv (nI r), iv (nI i), u4] [] h2 0 0 (fun x h' => ∃ fl, RL S fl ∧ x = some (iv (nI fl.length)) ∧ RM h' (fulS S fl) sg ∧ MF h h') := by
    intro n
    induction n with
    | zero =>
      intro i gl Tc r h2 u4 hi hgl q2 m2 pk hw hf he mf2
      have hnil : gl = [] := by rw [← hgl]; exact List.drop_eq_nil_of_le (by omega)
      subst hnil
      have f := fin1_f Tc r
      have hT : fin1 Tc r = (lay 12 0 (tuS S fl 12) Q).1 := by
        rw [he, LC_nil, lay_nil]
        intro r' h1 h2 hb
        have hne : r' ≠ r := by omega
        rw [(fin1_k Tc hne).1] at hb
        rw [f.1]
        exact ((pk.2.2.2.2.2.2.1 r' (by omega) hne).1 (pk.2.2.2.2.2.2.2 r' (by omega) (by omega) hb)).1
      have z := done h2 (fin1 Tc r) (iv (nI r)) (iv (nI i)) un m2 hT (f.2.2.2.2.2.1.trans hw) (f.2.2.2.2.2.2.1.trans hf) mf2
      refine TT.forget 4 (ls' := [rv 3 (some 0), iv (nI fl.length), iv (nI r), iv (nI i), un]) rfl ?_
      refine r_iload_n 164 d_76_163 rfl rfl ?_
      refine r_aload_n 165 d_76_164 rfl rfl ?_
      refine r_getI 168 3 15 (nI Q.length) d_76_165 rfl fk_3_100 rfl q2.1 ?_
      refine r_icmp_ge 266 171 d_76_168 (by decide) rfl (fun c_168 => ?_) (fun c_168 => absurd (nI_le (by omega) (by omega)) c_168)
      exact z
    | succ n ih =>
      intro i gl Tc r h2 u4 hi hgl q2 m2 pk hw hf he mf2
      obtain ⟨o, ho⟩ := at_lt (l := Q) (i := i) (by omega)
      have hds := drop_s ho
      rw [hgl] at hds
      subst hds
      obtain ⟨gl, hgl'⟩ : ∃ gl, Q.drop (i + 1) = gl := ⟨_, rfl⟩
      rw [hgl'] at hgl m2 pk he
      have hoa := hqm o (List.mem_of_getElem? ho)
      have hso := m2.lt hoa
      have hn := pk.2.2.1.2 o List.mem_cons_self
      rw [hw] at hn
      have place : ∀ T y, RXG h2 S (fin1 T y) (o :: gl) sg → PK T y (o :: gl) → wd T = wd S → fd T = fd S → us T y + wd S o ≤ 16 → lay 12 0 (tuS S fl 12) Q = LC (11 - y) y T (o :: gl) → TT 76 208 [rv 3 (some 0), iv (nI fl.length), iv (nI y), iv (nI i), iv (nI (sg o))] [] h2 0 0 (fun x h' => ∃ fl, RL S fl ∧ x = some (iv (nI fl.length)) ∧ RM h' (fulS S fl) sg ∧ MF h h') := by
        intro T y m3 pk3 hw3 hf3 hfit he3
        have hy := pk3.1
        have f := fin1_f T y
        have hn3 := pk3.2.2.1.2 o List.mem_cons_self
        have hus : hI h2 6 9 y = nI (us T y) := (m3.us hy).trans (by rw [f.2.1])
        obtain ⟨p1, p2⟩ := PK_fin pk3
        have w2 : ∀ x, x ∈ all (fin1 T y) → 2 ≤ wd (fin1 T y) x := fun x hx => by
          rw [all_eq f.1] at hx
          rw [f.2.2.2.2.2.1]
          exact PK_w2 pk3 x hx
        have mp := RX_put (G' := gl) m3 hoa (by rw [all_eq f.1]; exact hn3.1) hy (free_pos p1 p2 w2 hy (by rw [f.1, f.2.1]; unfold sw; rw [f.2.2.2.2.2.1]; exact pk3.2.2.2.1.1) (by rw [f.2.1]; omega)) (fun x hx => List.mem_cons.mp hx)
        rw [f.2.1] at mp
        have hpu : hI (putH h2 (sg o) y (us T y)) 6 9 y = nI (us T y) := by unfold putH; rw [w6n (by decide), w6n (by decide), w6n (by decide)]; exact hus
        have hpw : hI (putH h2 (sg o) y (us T y)) 6 1 (sg o) = nI (wd S o) := mp.wd hoa
        have mE : RXG (sI (sI (sI (putH h2 (sg o) y (us T y)) 6 9 y (nI (us T y + wd S o))) 6 8 y (nI 3)) 6 10 y (nI (us T y + wd S o))) S (fin1 (apS T y o) y) gl sg := by
          rw [fin1_ap]
          refine RX_reg mp (XG_sI (XG_sI (XG_sI (XG.rf _) rfl) rfl) rfl) (fun r' hr' => ⟨?_, ?_, ?_⟩) ?_ (fun k hk => ?_) ⟨rfl, rfl, rfl⟩ ⟨?_, ?_, ?_, ?_⟩
          · rw [w6n (by decide), wA, w6n (by decide), mp.kd hr']
            show (if r' = y then nI 3 else nI (kd (fin1 T y) r')) = nI (va_up (kd T) y 3 r')
            by_cases e : r' = y
            · rw [if_pos e, e, va_up_self]
            · rw [if_neg e, va_up_ne _ _ e, (fin1_k T e).1]
          · rw [w6n (by decide), w6n (by decide), wA, mp.us hr']
            show (if r' = y then nI (us T y + wd S o) else nI (us (fin1 T y) r')) = nI (va_up (us T) y (us T y + wd T o) r')
            by_cases e : r' = y
            · rw [if_pos e, e, va_up_self, hw3]
            · rw [if_neg e, va_up_ne _ _ e, f.2.1]
          · rw [wA, w6n (by decide), w6n (by decide), mp.lw hr']
            show (if r' = y then nI (us T y + wd S o) else ol (lw (fin1 T y) r')) = ol (va_up (lw T) y (some (va_up (us T) y (us T y + wd T o) y)) r')
            by_cases e : r' = y
            · rw [if_pos e, e, va_up_self, va_up_self, hw3]; rfl
            · rw [if_neg e, va_up_ne _ _ e, (fin1_k T e).2]
          · rw [wS (by decide), wS (by decide), wS (by decide)]
            exact mp.cu.trans (congrArg ol f.2.2.2.2.2.2.2.1)
          · rw [w6n (by decide), w6n (by decide), w6n (by decide)]
            exact (mp.ct hk).trans (congrArg nI (congrFun f.2.2.2.2.2.2.2.2 k))
          · refine all_eq ?_
            show va_up (itm T) y (itm T y ++ [o]) = va_up (itm (fin1 T y)) y (itm (fin1 T y) y ++ [o])
            rw [f.1]
          · show va_up (hm T) o y = va_up (hm (fin1 T y)) o y
            rw [f.2.2.1]
          · show va_up (so T) o (us T y) = va_up (so (fin1 T y)) o (us (fin1 T y) y)
            rw [f.2.2.2.1, f.2.1]
          · exact f.2.2.2.2.1.symm
        have pk4 := PK_ap pk3 (by rw [hw3]; exact hfit)
        have he4 : lay 12 0 (tuS S fl 12) Q = LC (11 - y) y (apS T y o) gl := by rw [he3, LC_fit (by rw [hw3]; exact hfit)]
        have q4 : MQu (sI (sI (sI (putH h2 (sg o) y (us T y)) 6 9 y (nI (us T y + wd S o))) 6 8 y (nI 3)) 6 10 y (nI (us T y + wd S o))) sg Q := MQ_f q2 (by unfold putH; rw [wS (by decide), wS (by decide), wS (by decide), wS (by decide), wS (by decide), wS (by decide)]) (fun k => by unfold putH; rw [w6n (by decide), w6n (by decide), w6n (by decide), w6n (by decide), w6n (by decide), w6n (by decide)])
        have mf4 : MF h (sI (sI (sI (putH h2 (sg o) y (us T y)) 6 9 y (nI (us T y + wd S o))) 6 8 y (nI 3)) 6 10 y (nI (us T y + wd S o))) := MF_sI (MF_sI (MF_sI (MF_sI (MF_sI (MF_sI mf2 rfl) rfl) rfl) rfl) rfl) rfl
        have z := ih (i + 1) gl (apS T y o) y _ (iv (nI (sg o))) (by omega) hgl' q4 mE pk4 hw3 hf3 he4 mf4
        refine r_aload_n 209 d_76_208 rfl rfl ?_
        refine r_iload 211 d_76_209 rfl rfl ?_
        refine r_iload_n 212 d_76_211 rfl rfl ?_
        refine r_aload_n 213 d_76_212 rfl rfl ?_
        refine r_getR 216 3 9 6 (some 9) d_76_213 rfl fk_3_37 rfl (by decide) (MT.f9 m2.mt) ?_
        refine r_iload_n 217 d_76_216 rfl rfl ?_
        refine r_iald 218 y (nI (us T y)) d_76_217 rfl rfl (MT.l6_9 m2.mt hy) hus ?_
        refine r_callV (k1 := 0) (n1 := 0) (k := 0) (n := 0) 221 67 3 [iv (nI (sg o)), iv (nI y), iv (nI (us T y))] d_76_218 rfl mk_67 lk_3_119 mv_67 rfl rfl rfl rfl rfl _ (m_put m2.mt hso hy (by omega)) ?_
        intro r_218 h_218 q_218
        obtain ⟨q1, q2⟩ := q_218
        subst q2
        rw [q1]
        show TT 76 221 [rv 3 (some 0), iv (nI fl.length), iv (nI y), iv (nI i), iv (nI (sg o))] [] (putH h2 (sg o) y (us T y)) _ _ _
        refine r_aload_n 222 d_76_221 rfl rfl ?_
        refine r_getR 225 3 9 6 (some 9) d_76_222 rfl fk_3_37 rfl (by decide) (MT.f9 mp.mt) ?_
        refine r_iload_n 226 d_76_225 rfl rfl ?_
        refine r_aload_n 227 d_76_226 rfl rfl ?_
        refine r_getR 230 3 9 6 (some 9) d_76_227 rfl fk_3_37 rfl (by decide) (MT.f9 mp.mt) ?_
        refine r_iload_n 231 d_76_230 rfl rfl ?_
        refine r_iald 232 y (nI (us T y)) d_76_231 rfl rfl (MT.l6_9 mp.mt hy) hpu ?_
        refine r_aload_n 233 d_76_232 rfl rfl ?_
        refine r_getR 236 3 1 6 (some 1) d_76_233 rfl fk_3_13 rfl (by decide) (MT.f1 mp.mt) ?_
        refine r_iload 238 d_76_236 rfl rfl ?_
        refine r_iald 239 (sg o) (nI (wd S o)) d_76_238 rfl rfl (MT.l6_1 mp.mt hso) hpw ?_
        refine r_iadd 240 (nI ((us T y) + (wd S o))) d_76_239 rfl (nI_add (us T y) (wd S o)) ?_
        refine r_iast 241 y d_76_240 rfl rfl (MT.l6_9 mp.mt hy) ?_
        refine r_aload_n 242 d_76_241 rfl rfl ?_
        refine r_getR 245 3 8 6 (some 8) d_76_242 rfl fk_3_34 rfl (by decide) (MT.f8 (MT_sI mp.mt rfl)) ?_
        refine r_iload_n 246 d_76_245 rfl rfl ?_
        refine r_iconst 247 (nI 3) d_76_246 rfl (by decide) ?_
        refine r_iast 248 y d_76_247 rfl rfl (MT.l6_8 (MT_sI mp.mt rfl) hy) ?_
        refine r_aload_n 249 d_76_248 rfl rfl ?_
        refine r_getR 252 3 10 6 (some 10) d_76_249 rfl fk_3_40 rfl (by decide) (MT.f10 (MT_sI (MT_sI mp.mt rfl) rfl)) ?_
        refine r_iload_n 253 d_76_252 rfl rfl ?_
        refine r_aload_n 254 d_76_253 rfl rfl ?_
        refine r_getR 257 3 9 6 (some 9) d_76_254 rfl fk_3_37 rfl (by decide) (MT.f9 (MT_sI (MT_sI mp.mt rfl) rfl)) ?_
        refine r_iload_n 258 d_76_257 rfl rfl ?_
        refine r_iald 259 y (nI (us T y + wd S o)) d_76_258 rfl rfl (MT.l6_9 (MT_sI (MT_sI mp.mt rfl) rfl) hy) (by rw [w6n (by decide), wA, if_pos rfl]) ?_
        refine r_iast 260 y d_76_259 rfl rfl (MT.l6_10 (MT_sI (MT_sI mp.mt rfl) rfl) hy) ?_
        refine r_iinc 263 (nI (i + 1)) [rv 3 (some 0), iv (nI fl.length), iv (nI y), iv (nI (i + 1)), iv (nI (sg o))] d_76_260 rfl rfl (nI_1 i) rfl rfl ?_
        refine r_goto 163 d_76_263 (by decide) ?_
        exact z
      have f := fin1_f Tc r
      have hr := pk.1
      have hus : hI h2 6 9 r = nI (us Tc r) := (m2.us hr).trans (by rw [f.2.1])
      have hu16 := pk.2.2.2.1.2.1
      refine TT.forget 4 (ls' := [rv 3 (some 0), iv (nI fl.length), iv (nI r), iv (nI i), un]) rfl ?_
      by_cases hfit : us Tc r + wd S o ≤ 16
      · have z := place Tc r m2 pk hw hf hfit he
        refine r_iload_n 164 d_76_163 rfl rfl ?_
        refine r_aload_n 165 d_76_164 rfl rfl ?_
        refine r_getI 168 3 15 (nI Q.length) d_76_165 rfl fk_3_100 rfl q2.1 ?_
        refine r_icmp_ge 266 171 d_76_168 (by decide) rfl (fun c_168 => absurd c_168 (nI_ge (by omega) (by omega))) (fun c_168 => ?_)
        refine r_aload_n 172 d_76_171 rfl rfl ?_
        refine r_getR 175 3 16 6 (some 13) d_76_172 rfl fk_3_57 rfl (by decide) (MT.f16 m2.mt) ?_
        refine r_iload_n 176 d_76_175 rfl rfl ?_
        refine r_iald 177 i (nI (sg o)) d_76_176 rfl rfl (MT.l6_13 m2.mt (by omega)) (q2.2 i o ho) ?_
        refine r_istore 179 [rv 3 (some 0), iv (nI fl.length), iv (nI r), iv (nI i), iv (nI (sg o))] d_76_177 rfl rfl rfl ?_
        refine r_aload_n 180 d_76_179 rfl rfl ?_
        refine r_getR 183 3 9 6 (some 9) d_76_180 rfl fk_3_37 rfl (by decide) (MT.f9 m2.mt) ?_
        refine r_iload_n 184 d_76_183 rfl rfl ?_
        refine r_iald 185 r (nI (us Tc r)) d_76_184 rfl rfl (MT.l6_9 m2.mt hr) hus ?_
        refine r_aload_n 186 d_76_185 rfl rfl ?_
        refine r_getR 189 3 1 6 (some 1) d_76_186 rfl fk_3_13 rfl (by decide) (MT.f1 m2.mt) ?_
        refine r_iload 191 d_76_189 rfl rfl ?_
        refine r_iald 192 (sg o) (nI (wd S o)) d_76_191 rfl rfl (MT.l6_1 m2.mt hso) (m2.wd hoa) ?_
        refine r_iadd 193 (nI ((us Tc r) + (wd S o))) d_76_192 rfl (nI_add (us Tc r) (wd S o)) ?_
        refine r_bipush 195 (nI 16) d_76_193 rfl (by decide) ?_
        refine r_icmp_le 206 198 d_76_195 (by decide) rfl (fun c_195 => ?_) (fun c_195 => absurd (nI_le hfit (by decide)) c_195)
        refine r_iload_n 207 d_76_206 rfl rfl ?_
        refine r_istore_n 208 [rv 3 (some 0), iv (nI fl.length), iv (nI r), iv (nI i), iv (nI (sg o))] d_76_207 rfl rfl rfl ?_
        exact z
      · have he2 : lay 12 0 (tuS S fl 12) Q = lay (11 - r) (r + 1) (fin1 Tc r) (o :: gl) := by rw [he, LC_not (by rw [hw]; exact hfit)]
        obtain ⟨p1, p2⟩ := PK_fin pk
        obtain ⟨y1, y2, y3, y4⟩ := lay_np (T := fin1 Tc r) (gl := o :: gl) (by simp) (fun r' hr' => (p2 r' hr').2.2.2.2) (11 - r) (r + 1) (by omega) (by rw [← he2]; exact room)
        have hnp := m_nextPlain m2.mt (K := kd (fin1 Tc r)) (fun r' hr' => ⟨m2.kd hr', (p2 r' hr').2.2.2.2⟩) (a := nI r) (x := r + 1) (nI_add r 1) (by omega)
        generalize npF (kd (fin1 Tc r)) (11 - (r + 1)) (r + 1) = y at y1 y2 y3 y4 hnp
        obtain ⟨pk5, i5, u5⟩ := PK_next pk y1 (by omega) y3
        have z := place (fin1 Tc r) y (by rw [fin1_e i5]; exact m2) pk5 (f.2.2.2.2.2.1.trans hw) (f.2.2.2.2.2.2.1.trans hf) (by rw [u5]; omega) (by rw [he2, y4])
        refine r_iload_n 164 d_76_163 rfl rfl ?_
        refine r_aload_n 165 d_76_164 rfl rfl ?_
        refine r_getI 168 3 15 (nI Q.length) d_76_165 rfl fk_3_100 rfl q2.1 ?_
        refine r_icmp_ge 266 171 d_76_168 (by decide) rfl (fun c_168 => absurd c_168 (nI_ge (by omega) (by omega))) (fun c_168 => ?_)
        refine r_aload_n 172 d_76_171 rfl rfl ?_
        refine r_getR 175 3 16 6 (some 13) d_76_172 rfl fk_3_57 rfl (by decide) (MT.f16 m2.mt) ?_
        refine r_iload_n 176 d_76_175 rfl rfl ?_
        refine r_iald 177 i (nI (sg o)) d_76_176 rfl rfl (MT.l6_13 m2.mt (by omega)) (q2.2 i o ho) ?_
        refine r_istore 179 [rv 3 (some 0), iv (nI fl.length), iv (nI r), iv (nI i), iv (nI (sg o))] d_76_177 rfl rfl rfl ?_
        refine r_aload_n 180 d_76_179 rfl rfl ?_
        refine r_getR 183 3 9 6 (some 9) d_76_180 rfl fk_3_37 rfl (by decide) (MT.f9 m2.mt) ?_
        refine r_iload_n 184 d_76_183 rfl rfl ?_
        refine r_iald 185 r (nI (us Tc r)) d_76_184 rfl rfl (MT.l6_9 m2.mt hr) hus ?_
        refine r_aload_n 186 d_76_185 rfl rfl ?_
        refine r_getR 189 3 1 6 (some 1) d_76_186 rfl fk_3_13 rfl (by decide) (MT.f1 m2.mt) ?_
        refine r_iload 191 d_76_189 rfl rfl ?_
        refine r_iald 192 (sg o) (nI (wd S o)) d_76_191 rfl rfl (MT.l6_1 m2.mt hso) (m2.wd hoa) ?_
        refine r_iadd 193 (nI ((us Tc r) + (wd S o))) d_76_192 rfl (nI_add (us Tc r) (wd S o)) ?_
        refine r_bipush 195 (nI 16) d_76_193 rfl (by decide) ?_
        refine r_icmp_le 206 198 d_76_195 (by decide) rfl (fun c_195 => absurd c_195 (fun y => hfit ((nI_leI (by omega) (by decide)).mp y))) (fun c_195 => ?_)
        refine r_aload_n 199 d_76_198 rfl rfl ?_
        refine r_iload_n 200 d_76_199 rfl rfl ?_
        refine r_callV (k1 := 0) (n1 := 0) (k := 0) (n := 0) 203 77 3 [iv (nI r)] d_76_200 rfl mk_77 lk_3_126 mv_77 rfl rfl rfl rfl rfl _ hnp ?_
        intro r_200 h_200 q_200
        obtain ⟨q1, q2⟩ := q_200
        subst q2
        rw [q1]
        show TT 76 203 [rv 3 (some 0), iv (nI fl.length), iv (nI r), iv (nI i), iv (nI (sg o))] [iv (nI y)] h2 _ _ _
        refine r_goto 207 d_76_203 (by decide) ?_
        refine r_istore_n 208 [rv 3 (some 0), iv (nI fl.length), iv (nI y), iv (nI i), iv (nI (sg o))] d_76_207 rfl rfl rfl ?_
        exact z
  have hnp := m_nextPlain m1.mt (K := kd (tuS S fl 12)) (fun r' hr' => ⟨m1.kd hr', (ri0 r' hr').2.2.2.2⟩) (a := -1) (x := 0) (by decide) (by omega)
  cases hq : Q with
  | nil =>
    subst hq
    have hT : tuS S fl 12 = (lay 12 0 (tuS S fl 12) []).1 := by
      rw [lay_nil]
      intro r' h1 h2 hb
      cases hg : gone S fl 12 r' with
      | true => exact (tu_g hg).2.2.2
      | false =>
        have := (gone_no (by omega) hg).1
        rw [(tu_n hg).1, this] at hb
        cases hb
    generalize npF (kd (tuS S fl 12)) (11 - 0) 0 = y at hnp
    have z := done h1 _ (iv (nI y)) (iv (nI 0)) un m1 hT rfl rfl mf1
    have hq0 : hI h1 3 0 15 = nI 0 := q1.1
    refine r_aload_n 156 d_76_155 rfl rfl ?_
    refine r_iconst 157 (-1) d_76_156 rfl (by decide) ?_
    refine r_callV (k1 := 0) (n1 := 0) (k := 0) (n := 0) 160 77 3 [iv (-1)] d_76_157 rfl mk_77 lk_3_126 mv_77 rfl rfl rfl rfl rfl _ hnp ?_
    intro r_157 h_157 q_157
    obtain ⟨q1, q2⟩ := q_157
    subst q2
    rw [q1]
    show TT 76 160 [rv 3 (some 0), iv (nI fl.length), un, un, un] [iv (nI y)] h1 _ _ _
    refine r_istore_n 161 [rv 3 (some 0), iv (nI fl.length), iv (nI y), un, un] d_76_160 rfl rfl rfl ?_
    refine r_iconst 162 (nI 0) d_76_161 rfl (by decide) ?_
    refine r_istore_n 163 [rv 3 (some 0), iv (nI fl.length), iv (nI y), iv (nI 0), un] d_76_162 rfl rfl rfl ?_
    refine r_iload_n 164 d_76_163 rfl rfl ?_
    refine r_aload_n 165 d_76_164 rfl rfl ?_
    refine r_getI 168 3 15 (nI 0) d_76_165 rfl fk_3_100 rfl hq0 ?_
    refine r_icmp_ge 266 171 d_76_168 (by decide) rfl (fun c_168 => ?_) (fun c_168 => absurd (nI_le (Nat.le_refl _) (by decide)) c_168)
    exact z
  | cons o gl =>
    obtain ⟨y1, y2, y3, y4⟩ := lay_np (T := tuS S fl 12) (gl := Q) (by rw [hq]; simp) (fun r' hr' => (ri0 r' hr').2.2.2.2) 12 0 rfl room
    generalize npF (kd (tuS S fl 12)) (11 - 0) 0 = y at y1 y2 y3 y4 hnp
    have hz : ∀ r', r' < 12 → big (kd (tuS S fl 12) r') = false → kd (tuS S fl 12) r' = 0 := by
      intro r' h2 hb
      cases hg : gone S fl 12 r' with
      | true => exact (tu_g hg).1
      | false =>
        have := (gone_no h2 hg).1
        rw [(tu_n hg).1, this] at hb
        cases hb
    have ky := hz y y1 y3
    obtain ⟨i1, i2, i3⟩ := (ri0 y y1).1 ky
    have nw := gl_NW (S := S) (fl := fl) v
    rw [hQ] at nw
    have pk0 : PK (tuS S fl 12) y Q := ⟨y1, tu_PL v, nw, ⟨by rw [i1, i2]; rfl, by omega, fun o ho => by rw [i1] at ho; cases ho⟩, ky, i3, fun r' hr' _ => ri0 r' hr', fun r' _ h2 => hz r' h2⟩
    have z := loop Q.length 0 Q (tuS S fl 12) y h1 un (by omega) rfl q1 (by rw [fin1_e i1]; exact m1) pk0 rfl rfl y4 mf1
    refine r_aload_n 156 d_76_155 rfl rfl ?_
    refine r_iconst 157 (-1) d_76_156 rfl (by decide) ?_
    refine r_callV (k1 := 0) (n1 := 0) (k := 0) (n := 0) 160 77 3 [iv (-1)] d_76_157 rfl mk_77 lk_3_126 mv_77 rfl rfl rfl rfl rfl _ hnp ?_
    intro r_157 h_157 q_157
    obtain ⟨q1, q2⟩ := q_157
    subst q2
    rw [q1]
    show TT 76 160 [rv 3 (some 0), iv (nI fl.length), un, un, un] [iv (nI y)] h1 _ _ _
    refine r_istore_n 161 [rv 3 (some 0), iv (nI fl.length), iv (nI y), un, un] d_76_160 rfl rfl rfl ?_
    refine r_iconst 162 (nI 0) d_76_161 rfl (by decide) ?_
    refine r_istore_n 163 [rv 3 (some 0), iv (nI fl.length), iv (nI y), iv (nI 0), un] d_76_162 rfl rfl rfl ?_
    exact z
