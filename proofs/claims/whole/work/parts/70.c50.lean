/-! contracts of the reference: a collection, what is found is copied -/
theorem RQ_w {h : AH} {S : SS} {col : Nat → Bool} {P : PP} {sg : Nat → Nat} (q : RQ h S col P sg) {a k : Nat} {v : Int32} (ha : a < 12) : RQ (sI h 6 a k v) S col P sg := by
  have e6 : ∀ b j, 12 ≤ b → hI (sI h 6 a k v) 6 b j = hI h 6 b j := fun b j hb => w6n (by omega)
  refine ⟨fun r hr => ⟨(wS (by decide)).trans (q.co hr), (e6 _ _ (by decide)).trans (q.bc hr)⟩, fun o ho => (wS (by decide)).trans (q.kn ho), ⟨(wS (by decide)).trans q.fo, fun i o hi => (e6 _ _ (by decide)).trans (q.qu hi)⟩, fun i o t hi ht => ⟨(e6 _ _ (by decide)).trans (q.nr hi ht), (e6 _ _ (by decide)).trans (q.no hi ht)⟩, fun k hk => ⟨(e6 _ _ (by decide)).trans (q.ta hk), fun t ht => (e6 _ _ (by decide)).trans (q.fi hk ht)⟩, (wS (by decide)).trans q.la⟩
theorem swt_take {S : SS} {P : PP} {l : List Nat} {i o t r : Nat} (h : l[i]? = some o) (ht : pt P o = some t) : swt S P (l.take (i + 1)) r = swt S P (l.take i) r + (if t = r then wd S o else 0) := by
  unfold swt
  rw [List.take_add_one, h, List.filter_append, sw_app]
  congr 1
  simp only [Option.toList, List.filter_cons, List.filter_nil, ht]
  by_cases e : t = r
  · simp [e, sw]
  · simp [e, sw]
theorem m_copy {h : AH} {S : SS} {col : Nat → Bool} {P : PP} {sg : Nat → Nat} (v : IV S) (sm : SMc S col) (pi : PI S col P) : ∀ n i h1 T u3, i + n = (pf P).length → RX h1 S T sg → RQ h1 S col P sg → AI S P T ((pf P).drop i) → (∀ t, t < 12 → pk P t ≠ 0 → us T t = swt S P ((pf P).take i) t) → cpS S col P = endC (((pf P).drop i).foldl (apF P) T) → MF h h1 → TT 75 198 [rv 3 (some 0), un, iv (nI i), u3] [] h1 0 0 (fun x h' => x = some (iv (nI (pf P).length)) ∧ RM h' (cpS S col P) sg ∧ MF h h') := by
  have hl := PI_len v.bd pi
  intro n
  induction n with
  | zero =>
    intro i h1 T u3 hn m1 q ai hu he mf1
    obtain rfl : i = (pf P).length := by omega
    rw [List.drop_length] at he ai
    have he : cpS S col P = endC T := he
    refine TT.forget 3 (ls' := [rv 3 (some 0), un, iv (nI (pf P).length), un]) rfl ?_
    have mE : RM (sI (sI h1 3 0 11 (-1)) 6 11 0 (nI (ct T 0 + 1))) (endC T) sg := by
      refine RX_D (D := S) (RX_reg m1 (XG_sI (XG_sI (XG.rf _) rfl) rfl) (fun r hr => ⟨?_, ?_, ?_⟩) ?_ (fun k hk => ?_) ⟨rfl, rfl, rfl⟩ ⟨rfl, rfl, rfl, rfl⟩) ai.2.2.2.1.1 ai.2.2.2.2.2.2
      · rw [w6n (by decide), wS (by decide)]; exact m1.kd hr
      · rw [w6n (by decide), wS (by decide)]; exact m1.us hr
      · rw [w6n (by decide), wS (by decide)]; exact m1.lw hr
      · rw [wS (by decide), wA, if_pos rfl]; rfl
      · rw [wA, wS (by decide), m1.ct hk]
        show (if k = 0 then nI (ct T 0 + 1) else nI (ct T k)) = nI (va_up (ct T) 0 (ct T 0 + 1) k)
        by_cases e : k = 0
        · rw [if_pos e, e, va_up_self]
        · rw [if_neg e, va_up_ne _ _ e]
    refine r_iload_n 199 d_75_198 rfl rfl ?_
    refine r_aload_n 200 d_75_199 rfl rfl ?_
    refine r_getI 203 3 15 (nI (pf P).length) d_75_200 rfl fk_3_100 rfl q.fo ?_
    refine r_icmp_ge 284 206 d_75_203 (by decide) rfl (fun c_203 => ?_) (fun c_203 => absurd (nI_le (Nat.le_refl _) (by omega)) c_203)
    refine r_aload_n 285 d_75_284 rfl rfl ?_
    refine r_iconst 286 (-1) d_75_285 rfl (by decide) ?_
    refine r_putI 289 3 11 d_75_286 rfl fk_3_43 (Or.inl rfl) rfl rfl rfl ?_
    refine r_aload_n 290 d_75_289 rfl rfl ?_
    refine r_getR 293 3 12 6 (some 11) d_75_290 rfl fk_3_47 rfl (by decide) (MT.f12 (MT_sI m1.mt rfl)) ?_
    refine r_iconst 294 (nI 0) d_75_293 rfl (by decide) ?_
    refine r_dup2 295 d_75_294 rfl rfl rfl ?_
    refine r_iald 296 0 (nI (ct T 0)) d_75_295 rfl rfl (MT.l6_11 (MT_sI m1.mt rfl) (by decide)) ((wS (by decide)).trans (m1.ct (by decide))) ?_
    refine r_iconst 297 (nI 1) d_75_296 rfl (by decide) ?_
    refine r_iadd 298 (nI ((ct T 0) + 1)) d_75_297 rfl (nI_add (ct T 0) 1) ?_
    refine r_iast 299 0 d_75_298 rfl rfl (MT.l6_11 (MT_sI m1.mt rfl) (by decide)) ?_
    refine r_aload_n 300 d_75_299 rfl rfl ?_
    refine r_getI 303 3 15 (nI (pf P).length) d_75_300 rfl fk_3_100 rfl (by rw [wS (by decide), wA, if_neg (by decide)]; exact q.fo) ?_
    refine r_ireturn d_75_303 rfl ?_
    exact ⟨rfl, by rw [he]; exact mE, MF_sI (MF_sI mf1 rfl) rfl⟩
  | succ n ih =>
    intro i h1 T u3 hn m1 q ai hu he mf1
    have hlt : i < (pf P).length := by omega
    obtain ⟨o, hi⟩ := at_lt hlt
    have hmem := List.mem_of_getElem? hi
    obtain ⟨hoa, hoc⟩ := pi.2.1 o hmem
    have hso := m1.lt hoa
    obtain ⟨t, ht⟩ := Option.isSome_iff_exists.mp ((pi.2.2.1 o).mp hmem)
    obtain ⟨ht12, htk⟩ := pi.2.2.2.1 o t ht
    rw [drop_s hi] at ai he
    have hwT : wd T o = wd S o := by rw [ai.2.2.2.1.1]
    have hw2 := (sm o hoa hoc).1
    have hroom := (ai.2.2.2.1.2.2 t ht12 htk).2
    rw [swt_cons ht, if_pos rfl] at hroom
    obtain ⟨k1, k2⟩ := ai.2.2.2.2.1 t ht12 htk
    have huT := ((ai.2.2.1 t ht12).2.1 k1 k2).1
    have hnT := (ai.2.1.2 o List.mem_cons_self).1
    have w2 : ∀ x, x ∈ all T → 2 ≤ wd T x := fun x hx => by rw [ai.2.2.2.1.1]; exact v.w2 x (m1.sub hx)
    have mp := RX_put (G' := []) m1 hoa hnT ht12 (free_pos ai.1 ai.2.2.1 w2 ht12 huT (by omega)) (fun y hy => by cases hy)
    have qp : RQ (putH h1 (sg o) t (us T t)) S col P sg := RQ_w (RQ_w (RQ_w q (by decide)) (by decide)) (by decide)
    have hno : hI h1 6 15 (sg o) = nI (us T t) := (q.no hi ht).trans (by rw [hu t ht12 htk])
    have eA : apF P T o = c2S (apS T t o) (wd T o) := by unfold apF; rw [ht]
    have mN : RX (sI (sI (putH h1 (sg o) t (us T t)) 6 9 t (nI (us T t + wd S o))) 6 11 2 (nI (ct T 2 + wd S o))) S (apF P T o) sg := by
      rw [eA]
      refine RX_reg mp (XG_sI (XG_sI (XG.rf _) rfl) rfl) (fun r hr => ⟨?_, ?_, ?_⟩) ?_ (fun k hk => ?_) ⟨rfl, rfl, rfl⟩ ⟨rfl, rfl, rfl, rfl⟩
      · rw [w6n (by decide), w6n (by decide)]; exact mp.kd hr
      · rw [w6n (by decide), wA, mp.us hr]
        show (if r = t then nI (us T t + wd S o) else nI (us T r)) = nI (va_up (us T) t (us T t + wd T o) r)
        by_cases e : r = t
        · rw [if_pos e, e, va_up_self, hwT]
        · rw [if_neg e, va_up_ne _ _ e]
      · rw [w6n (by decide), w6n (by decide)]; exact mp.lw hr
      · rw [wS (by decide), wS (by decide)]; exact mp.cu
      · rw [wA, w6n (by decide), mp.ct hk]
        show (if k = 2 then nI (ct T 2 + wd S o) else nI (ct T k)) = nI (va_up (ct T) 2 (ct T 2 + wd T o) k)
        by_cases e : k = 2
        · rw [if_pos e, e, va_up_self, hwT]
        · rw [if_neg e, va_up_ne _ _ e]
    have hu' : ∀ t', t' < 12 → pk P t' ≠ 0 → us (apF P T o) t' = swt S P ((pf P).take (i + 1)) t' := by
      intro t' h1' h2'
      rw [swt_take hi ht, ← hu t' h1' h2', eA]
      show va_up (us T) t (us T t + wd T o) t' = _
      by_cases e : t' = t
      · rw [e, va_up_self, if_pos rfl, hwT]
      · rw [va_up_ne _ _ e, if_neg (Ne.symm e)]; rfl
    have z := ih (i + 1) _ (apF P T o) (iv (nI (sg o))) (by omega) mN (RQ_w (RQ_w qp (by decide)) (by decide)) (AI_step ai ht ht12 htk).1 hu' he (MF_sI (MF_sI (MF_sI (MF_sI (MF_sI mf1 rfl) rfl) rfl) rfl) rfl)
    refine TT.forget 3 (ls' := [rv 3 (some 0), un, iv (nI i), un]) rfl ?_
    refine r_iload_n 199 d_75_198 rfl rfl ?_
    refine r_aload_n 200 d_75_199 rfl rfl ?_
    refine r_getI 203 3 15 (nI (pf P).length) d_75_200 rfl fk_3_100 rfl q.fo ?_
    refine r_icmp_ge 284 206 d_75_203 (by decide) rfl (fun c_203 => absurd c_203 (nI_ge hlt (by omega))) (fun c_203 => ?_)
    refine r_aload_n 207 d_75_206 rfl rfl ?_
    refine r_getR 210 3 16 6 (some 13) d_75_207 rfl fk_3_57 rfl (by decide) (MT.f16 m1.mt) ?_
    refine r_iload_n 211 d_75_210 rfl rfl ?_
    refine r_iald 212 i (nI (sg o)) d_75_211 rfl rfl (MT.l6_13 m1.mt (by omega)) (q.qu hi) ?_
    refine r_istore_n 213 [rv 3 (some 0), un, iv (nI i), iv (nI (sg o))] d_75_212 rfl rfl rfl ?_
    refine r_aload_n 214 d_75_213 rfl rfl ?_
    refine r_iload_n 215 d_75_214 rfl rfl ?_
    refine r_aload_n 216 d_75_215 rfl rfl ?_
    refine r_getR 219 3 18 6 (some 14) d_75_216 rfl fk_3_63 rfl (by decide) (MT.f18 m1.mt) ?_
    refine r_iload_n 220 d_75_219 rfl rfl ?_
    refine r_iald 221 (sg o) (nI t) d_75_220 rfl rfl (MT.l6_14 m1.mt hso) (q.nr hi ht) ?_
    refine r_aload_n 222 d_75_221 rfl rfl ?_
    refine r_getR 225 3 19 6 (some 15) d_75_222 rfl fk_3_66 rfl (by decide) (MT.f19 m1.mt) ?_
    refine r_iload_n 226 d_75_225 rfl rfl ?_
    refine r_iald 227 (sg o) (nI (us T t)) d_75_226 rfl rfl (MT.l6_15 m1.mt hso) hno ?_
    refine r_callV (k1 := 0) (n1 := 0) (k := 0) (n := 0) 230 67 3 [iv (nI (sg o)), iv (nI t), iv (nI (us T t))] d_75_227 rfl mk_67 lk_3_119 mv_67 rfl rfl rfl rfl rfl _ (m_put m1.mt hso ht12 (by omega)) ?_
    intro r_227 h_227 q_227
    obtain ⟨q1x, q2x⟩ := q_227
    subst q2x
    rw [q1x]
    show TT 75 230 [rv 3 (some 0), un, iv (nI i), iv (nI (sg o))] [] (putH h1 (sg o) t (us T t)) _ _ _
    refine r_aload_n 231 d_75_230 rfl rfl ?_
    refine r_getR 234 3 9 6 (some 9) d_75_231 rfl fk_3_37 rfl (by decide) (MT.f9 mp.mt) ?_
    refine r_aload_n 235 d_75_234 rfl rfl ?_
    refine r_getR 238 3 18 6 (some 14) d_75_235 rfl fk_3_63 rfl (by decide) (MT.f18 mp.mt) ?_
    refine r_iload_n 239 d_75_238 rfl rfl ?_
    refine r_iald 240 (sg o) (nI t) d_75_239 rfl rfl (MT.l6_14 mp.mt hso) (qp.nr hi ht) ?_
    refine r_aload_n 241 d_75_240 rfl rfl ?_
    refine r_getR 244 3 9 6 (some 9) d_75_241 rfl fk_3_37 rfl (by decide) (MT.f9 mp.mt) ?_
    refine r_aload_n 245 d_75_244 rfl rfl ?_
    refine r_getR 248 3 18 6 (some 14) d_75_245 rfl fk_3_63 rfl (by decide) (MT.f18 mp.mt) ?_
    refine r_iload_n 249 d_75_248 rfl rfl ?_
    refine r_iald 250 (sg o) (nI t) d_75_249 rfl rfl (MT.l6_14 mp.mt hso) (qp.nr hi ht) ?_
    refine r_iald 251 t (nI (us T t)) d_75_250 rfl rfl (MT.l6_9 mp.mt ht12) (mp.us ht12) ?_
    refine r_aload_n 252 d_75_251 rfl rfl ?_
    refine r_getR 255 3 1 6 (some 1) d_75_252 rfl fk_3_13 rfl (by decide) (MT.f1 mp.mt) ?_
    refine r_iload_n 256 d_75_255 rfl rfl ?_
    refine r_iald 257 (sg o) (nI (wd S o)) d_75_256 rfl rfl (MT.l6_1 mp.mt hso) (mp.wd hoa) ?_
    refine r_iadd 258 (nI (us T t + wd S o)) d_75_257 rfl (nI_add _ _) ?_
    refine r_iast 259 t d_75_258 rfl rfl (MT.l6_9 mp.mt ht12) ?_
    refine r_aload_n 260 d_75_259 rfl rfl ?_
    refine r_getR 263 3 12 6 (some 11) d_75_260 rfl fk_3_47 rfl (by decide) (MT.f12 (MT_sI mp.mt rfl)) ?_
    refine r_iconst 264 (nI 2) d_75_263 rfl (by decide) ?_
    refine r_aload_n 265 d_75_264 rfl rfl ?_
    refine r_getR 268 3 12 6 (some 11) d_75_265 rfl fk_3_47 rfl (by decide) (MT.f12 (MT_sI mp.mt rfl)) ?_
    refine r_iconst 269 (nI 2) d_75_268 rfl (by decide) ?_
    refine r_iald 270 2 (nI (ct T 2)) d_75_269 rfl rfl (MT.l6_11 (MT_sI mp.mt rfl) (by decide)) ((w6n (by decide)).trans (mp.ct (by decide))) ?_
    refine r_aload_n 271 d_75_270 rfl rfl ?_
    refine r_getR 274 3 1 6 (some 1) d_75_271 rfl fk_3_13 rfl (by decide) (MT.f1 (MT_sI mp.mt rfl)) ?_
    refine r_iload_n 275 d_75_274 rfl rfl ?_
    refine r_iald 276 (sg o) (nI (wd S o)) d_75_275 rfl rfl (MT.l6_1 (MT_sI mp.mt rfl) hso) ((w6n (by decide)).trans (mp.wd hoa)) ?_
    refine r_iadd 277 (nI (ct T 2 + wd S o)) d_75_276 rfl (nI_add _ _) ?_
    refine r_iast 278 2 d_75_277 rfl rfl (MT.l6_11 (MT_sI mp.mt rfl) (by decide)) ?_
    refine r_iinc 281 (nI (i + 1)) [rv 3 (some 0), un, iv (nI (i + 1)), iv (nI (sg o))] d_75_278 rfl rfl (nI_1 i) rfl rfl ?_
    refine r_goto 198 d_75_281 (by decide) ?_
    exact z
