/-! contracts of the reference: finding what is to be copied -/
def RQ (h : AH) (S : SS) (col : Nat → Bool) (P : PP) (sg : Nat → Nat) : Prop :=
  (∀ r, r < 12 → hI h 7 0 r = bI (col r) ∧ hI h 6 12 r = nI (pk P r)) ∧
  (∀ o, o ∈ all S → hI h 7 1 (sg o) = bI (pt P o).isSome) ∧
  (hI h 3 0 15 = nI (pf P).length ∧ ∀ i o, (pf P)[i]? = some o → hI h 6 13 i = nI (sg o)) ∧
  (∀ i o t, (pf P)[i]? = some o → pt P o = some t → hI h 6 14 (sg o) = nI t ∧ hI h 6 15 (sg o) = nI (swt S P ((pf P).take i) t)) ∧
  (∀ k, k = 2 ∨ k = 3 → hI h 6 16 k = ol (pl P k) ∧ ∀ t, pl P k = some t → hI h 6 17 k = nI (pu P t)) ∧
  hI h 3 0 22 = bI (!po P)
section RQP
variable {h : AH} {S : SS} {col : Nat → Bool} {P : PP} {sg : Nat → Nat}
theorem RQ.co (q : RQ h S col P sg) {r : Nat} (hr : r < 12) : hI h 7 0 r = bI (col r) := (q.1 r hr).1
theorem RQ.bc (q : RQ h S col P sg) {r : Nat} (hr : r < 12) : hI h 6 12 r = nI (pk P r) := (q.1 r hr).2
theorem RQ.kn (q : RQ h S col P sg) {o : Nat} (ho : o ∈ all S) : hI h 7 1 (sg o) = bI (pt P o).isSome := q.2.1 o ho
theorem RQ.fo (q : RQ h S col P sg) : hI h 3 0 15 = nI (pf P).length := q.2.2.1.1
theorem RQ.qu (q : RQ h S col P sg) {i o : Nat} (h1 : (pf P)[i]? = some o) : hI h 6 13 i = nI (sg o) := q.2.2.1.2 i o h1
theorem RQ.nr (q : RQ h S col P sg) {i o t : Nat} (h1 : (pf P)[i]? = some o) (h2 : pt P o = some t) : hI h 6 14 (sg o) = nI t := (q.2.2.2.1 i o t h1 h2).1
theorem RQ.no (q : RQ h S col P sg) {i o t : Nat} (h1 : (pf P)[i]? = some o) (h2 : pt P o = some t) : hI h 6 15 (sg o) = nI (swt S P ((pf P).take i) t) := (q.2.2.2.1 i o t h1 h2).2
theorem RQ.ta (q : RQ h S col P sg) {k : Nat} (hk : k = 2 ∨ k = 3) : hI h 6 16 k = ol (pl P k) := (q.2.2.2.2.1 k hk).1
theorem RQ.fi (q : RQ h S col P sg) {k t : Nat} (hk : k = 2 ∨ k = 3) (ht : pl P k = some t) : hI h 6 17 k = nI (pu P t) := (q.2.2.2.2.1 k hk).2 t ht
theorem RQ.la (q : RQ h S col P sg) : hI h 3 0 22 = bI (!po P) := q.2.2.2.2.2
end RQP
theorem swt_cg {S : SS} {P P' : PP} {l : List Nat} {t : Nat} (h : ∀ x ∈ l, pt P x = pt P' x) : swt S P l t = swt S P' l t := by
  unfold swt
  rw [filter_congr' (fun x hx => by rw [h x hx])]
def plH (h : AH) (j n k t u w : Nat) : AH := sI (sI (sI (sI (sI (sI h 7 1 j (nI 1)) 6 13 n (nI j)) 3 0 15 (nI (n + 1))) 6 14 j (nI t)) 6 15 j (nI u)) 6 17 k (nI (u + w))
theorem RQ_plc {h h0 : AH} {S : SS} {col : Nat → Bool} {P : PP} {sg : Nat → Nat} (m : RM h0 S sg) (q : RQ h S col P sg) (i : PI S col P) {o t k : Nat} (ho : o ∈ all S) (hn : pt P o = none) (hk : k = 2 ∨ k = 3) (hl : pl P k = some t) : RQ (plH h (sg o) (pf P).length k t (pu P t) (wd S o)) S col (plc P o t (wd S o)) sg := by
  have hno : o ∉ pf P := fun z => by have := (i.2.2.1 o).mp z; rw [hn] at this; cases this
  have htk := (i.2.2.2.2.2 k hk t hl)
  refine ⟨fun r hr => ⟨?_, ?_⟩, fun o' ho' => ?_, ⟨?_, fun j o' hj => ?_⟩, fun j o' t' hj ht' => ?_, fun k' hk' => ⟨?_, fun t' ht' => ?_⟩, ?_⟩
  · unfold plH
    rw [wS (by decide), wS (by decide), wS (by decide), wS (by decide), wS (by decide), w7n (by decide)]
    exact q.co hr
  · unfold plH
    rw [w6n (by decide), w6n (by decide), w6n (by decide), wS (by decide), w6n (by decide), wS (by decide)]
    exact q.bc hr
  · unfold plH
    rw [wS (by decide), wS (by decide), wS (by decide), wS (by decide), wS (by decide), wA]
    show _ = bI (va_up (pt P) o (some t) o').isSome
    by_cases e : o' = o
    · subst e
      rw [if_pos rfl, va_up_self]
      rfl
    · rw [if_neg (fun z => e (m.inj ho' ho z)), va_up_ne _ _ e]
      exact q.kn ho'
  · unfold plH
    rw [wS (by decide), wS (by decide), wS (by decide), wA, if_pos rfl]
    show nI ((pf P).length + 1) = nI (pf P ++ [o]).length
    simp
  · unfold plH
    rw [w6n (by decide), w6n (by decide), w6n (by decide), wS (by decide), wA, wS (by decide)]
    have hj : (pf P ++ [o])[j]? = some o' := hj
    rw [List.getElem?_append] at hj
    split at hj
    · rename_i hlt
      rw [if_neg (by omega)]
      exact q.qu hj
    · by_cases e : j = (pf P).length
      · rw [if_pos e]
        rw [e, Nat.sub_self] at hj
        cases hj
        rfl
      · rw [List.getElem?_eq_none (by simp; omega)] at hj
        cases hj
  · have hj : (pf P ++ [o])[j]? = some o' := hj
    have ht' : va_up (pt P) o (some t) o' = some t' := ht'
    show hI (plH h (sg o) (pf P).length k t (pu P t) (wd S o)) 6 14 (sg o') = nI t' ∧ hI (plH h (sg o) (pf P).length k t (pu P t) (wd S o)) 6 15 (sg o') = nI (swt S (plc P o t (wd S o)) ((pf P ++ [o]).take j) t')
    rw [List.getElem?_append] at hj
    split at hj
    · rename_i hlt
      have hm' := List.mem_of_getElem? hj
      have hne : o' ≠ o := fun z => hno (z ▸ hm')
      have ho' := (i.2.1 o' hm').1
      have hsg : sg o' ≠ sg o := fun z => hne (m.inj ho' ho z)
      rw [va_up_ne _ _ hne] at ht'
      constructor
      · unfold plH
        rw [w6n (by decide), w6n (by decide), w6k hsg, wS (by decide), w6n (by decide), wS (by decide)]
        exact q.nr hj ht'
      · unfold plH
        rw [w6n (by decide), w6k hsg, w6n (by decide), wS (by decide), w6n (by decide), wS (by decide), q.no hj ht', List.take_append_of_le_length (by omega)]
        congr 1
        refine swt_cg (fun x hx => ?_)
        have : x ≠ o := fun z => hno (z ▸ List.mem_of_mem_take hx)
        exact (va_up_ne _ _ this).symm
    · by_cases e : j = (pf P).length
      · rw [e, Nat.sub_self] at hj
        cases hj
        rw [va_up_self] at ht'
        cases ht'
        rw [e, List.take_left]
        constructor
        · unfold plH
          rw [w6n (by decide), w6n (by decide), wA, if_pos rfl]
        · unfold plH
          rw [w6n (by decide), wA, if_pos rfl, (i.2.2.2.2.1 t htk.1).2.2.2.1]
          congr 1
          refine swt_cg (fun x hx => ?_)
          have : x ≠ o := fun z => hno (z ▸ hx)
          exact (va_up_ne _ _ this).symm
      · rw [List.getElem?_eq_none (by simp; omega)] at hj
        cases hj
  · unfold plH
    rw [w6n (by decide), w6n (by decide), w6n (by decide), wS (by decide), w6n (by decide), wS (by decide)]
    exact q.ta hk'
  · have ht' : pl P k' = some t' := ht'
    unfold plH
    rw [wA]
    show _ = nI (va_up (pu P) t (pu P t + wd S o) t')
    by_cases e : k' = k
    · subst e
      rw [hl] at ht'
      cases ht'
      rw [if_pos rfl, va_up_self]
    · have htk' := (i.2.2.2.2.2 k' hk' t' ht')
      have hne : t' ≠ t := fun z => e (by rw [← htk'.2, z, htk.2])
      rw [if_neg e, va_up_ne _ _ hne, w6n (by decide), w6n (by decide), wS (by decide), w6n (by decide), wS (by decide)]
      exact q.fi hk' ht'
  · unfold plH
    rw [wS (by decide), wS (by decide), wS (by decide), wA, if_neg (by decide), wS (by decide), wS (by decide)]
    exact q.la
theorem xf_plH {h h1 : AH} (x : XF h h1) (j n k t u w : Nat) : XF h (plH h1 j n k t u w) := XF_sI (XF_sI (XF_sI (XF_sI (XF_sI (XF_sI x rfl) rfl) rfl) rfl) rfl) rfl
theorem m_place {h : AH} {S : SS} {col : Nat → Bool} {P : PP} {sg : Nat → Nat} (m : RM h S sg) (v : IV S) (q : RQ h S col P sg) (i : PI S col P) {o t k : Nat} (ho : o ∈ all S) (hn : pt P o = none) (hk : k = 2 ∨ k = 3) (hl : pl P k = some t) : TT 72 158 [rv 3 (some 0), iv (nI (sg o)), iv (nI k), un, un] [] h 0 0 (fun r h' => r = none ∧ XF h h' ∧ RQ h' S col (plc P o t (wd S o)) sg) := by
  have hso := m.lt ho
  have hlen : (pf P).length < 97 := Nat.lt_succ_of_le (PI_len v.bd i)
  have hk4 : k < 4 := by omega
  have hta : hI h 6 16 k = nI t := (q.ta hk).trans (by rw [hl]; rfl)
  have hfi := q.fi hk hl
  refine r_aload_n 159 d_72_158 rfl rfl ?_
  refine r_getR 162 3 17 7 (some 1) d_72_159 rfl fk_3_60 rfl (by decide) (MT.f17 m.mt) ?_
  refine r_iload_n 163 d_72_162 rfl rfl ?_
  refine r_iconst 164 (nI 1) d_72_163 rfl (by decide) ?_
  refine r_bast 165 (sg o) d_72_164 rfl rfl (MT.l7_1 m.mt hso) rfl ?_
  refine r_aload_n 166 d_72_165 rfl rfl ?_
  refine r_getR 169 3 16 6 (some 13) d_72_166 rfl fk_3_57 rfl (by decide) (MT.f16 (MT_sI m.mt rfl)) ?_
  refine r_aload_n 170 d_72_169 rfl rfl ?_
  refine r_getI 173 3 15 (nI (pf P).length) d_72_170 rfl fk_3_100 rfl ((wS (by decide)).trans q.fo) ?_
  refine r_iload_n 174 d_72_173 rfl rfl ?_
  refine r_iast 175 ((pf P).length) d_72_174 rfl rfl (MT.l6_13 (MT_sI m.mt rfl) hlen) ?_
  refine r_aload_n 176 d_72_175 rfl rfl ?_
  refine r_dup 177 d_72_176 rfl rfl ?_
  refine r_getI 180 3 15 (nI (pf P).length) d_72_177 rfl fk_3_100 rfl ((wS (by decide)).trans ((wS (by decide)).trans q.fo)) ?_
  refine r_iconst 181 (nI 1) d_72_180 rfl (by decide) ?_
  refine r_iadd 182 (nI (((pf P).length) + 1)) d_72_181 rfl (nI_add ((pf P).length) 1) ?_
  refine r_putI 185 3 15 d_72_182 rfl fk_3_100 (Or.inl rfl) rfl rfl rfl ?_
  refine r_aload_n 186 d_72_185 rfl rfl ?_
  refine r_getR 189 3 18 6 (some 14) d_72_186 rfl fk_3_63 rfl (by decide) (MT.f18 (MT_sI (MT_sI (MT_sI m.mt rfl) rfl) rfl)) ?_
  refine r_iload_n 190 d_72_189 rfl rfl ?_
  refine r_aload_n 191 d_72_190 rfl rfl ?_
  refine r_getR 194 3 20 6 (some 16) d_72_191 rfl fk_3_69 rfl (by decide) (MT.f20 (MT_sI (MT_sI (MT_sI m.mt rfl) rfl) rfl)) ?_
  refine r_iload_n 195 d_72_194 rfl rfl ?_
  refine r_iald 196 k (nI t) d_72_195 rfl rfl (MT.l6_16 (MT_sI (MT_sI (MT_sI m.mt rfl) rfl) rfl) hk4) ((wS (by decide)).trans ((w6n (by decide)).trans ((wS (by decide)).trans hta))) ?_
  refine r_iast 197 (sg o) d_72_196 rfl rfl (MT.l6_14 (MT_sI (MT_sI (MT_sI m.mt rfl) rfl) rfl) hso) ?_
  refine r_aload_n 198 d_72_197 rfl rfl ?_
  refine r_getR 201 3 19 6 (some 15) d_72_198 rfl fk_3_66 rfl (by decide) (MT.f19 (MT_sI (MT_sI (MT_sI (MT_sI m.mt rfl) rfl) rfl) rfl)) ?_
  refine r_iload_n 202 d_72_201 rfl rfl ?_
  refine r_aload_n 203 d_72_202 rfl rfl ?_
  refine r_getR 206 3 21 6 (some 17) d_72_203 rfl fk_3_72 rfl (by decide) (MT.f21 (MT_sI (MT_sI (MT_sI (MT_sI m.mt rfl) rfl) rfl) rfl)) ?_
  refine r_iload_n 207 d_72_206 rfl rfl ?_
  refine r_iald 208 k (nI (pu P t)) d_72_207 rfl rfl (MT.l6_17 (MT_sI (MT_sI (MT_sI (MT_sI m.mt rfl) rfl) rfl) rfl) hk4) ((w6n (by decide)).trans ((wS (by decide)).trans ((w6n (by decide)).trans ((wS (by decide)).trans hfi)))) ?_
  refine r_iast 209 (sg o) d_72_208 rfl rfl (MT.l6_15 (MT_sI (MT_sI (MT_sI (MT_sI m.mt rfl) rfl) rfl) rfl) hso) ?_
  refine r_aload_n 210 d_72_209 rfl rfl ?_
  refine r_getR 213 3 21 6 (some 17) d_72_210 rfl fk_3_72 rfl (by decide) (MT.f21 (MT_sI (MT_sI (MT_sI (MT_sI (MT_sI m.mt rfl) rfl) rfl) rfl) rfl)) ?_
  refine r_iload_n 214 d_72_213 rfl rfl ?_
  refine r_aload_n 215 d_72_214 rfl rfl ?_
  refine r_getR 218 3 21 6 (some 17) d_72_215 rfl fk_3_72 rfl (by decide) (MT.f21 (MT_sI (MT_sI (MT_sI (MT_sI (MT_sI m.mt rfl) rfl) rfl) rfl) rfl)) ?_
  refine r_iload_n 219 d_72_218 rfl rfl ?_
  refine r_iald 220 k (nI (pu P t)) d_72_219 rfl rfl (MT.l6_17 (MT_sI (MT_sI (MT_sI (MT_sI (MT_sI m.mt rfl) rfl) rfl) rfl) rfl) hk4) ((w6n (by decide)).trans ((w6n (by decide)).trans ((wS (by decide)).trans ((w6n (by decide)).trans ((wS (by decide)).trans hfi))))) ?_
  refine r_aload_n 221 d_72_220 rfl rfl ?_
  refine r_getR 224 3 1 6 (some 1) d_72_221 rfl fk_3_13 rfl (by decide) (MT.f1 (MT_sI (MT_sI (MT_sI (MT_sI (MT_sI m.mt rfl) rfl) rfl) rfl) rfl)) ?_
  refine r_iload_n 225 d_72_224 rfl rfl ?_
  refine r_iald 226 (sg o) (nI (wd S o)) d_72_225 rfl rfl (MT.l6_1 (MT_sI (MT_sI (MT_sI (MT_sI (MT_sI m.mt rfl) rfl) rfl) rfl) rfl) hso) ((w6n (by decide)).trans ((w6n (by decide)).trans ((wS (by decide)).trans ((w6n (by decide)).trans ((wS (by decide)).trans (m.wd ho)))))) ?_
  refine r_iadd 227 (nI ((pu P t) + (wd S o))) d_72_226 rfl (nI_add (pu P t) (wd S o)) ?_
  refine r_iast 228 k d_72_227 rfl rfl (MT.l6_17 (MT_sI (MT_sI (MT_sI (MT_sI (MT_sI m.mt rfl) rfl) rfl) rfl) rfl) hk4) ?_
  refine r_return d_72_228 rfl ?_
  exact ⟨rfl, xf_plH (XF.rf h) _ _ _ _ _ _, RQ_plc m q i ho hn hk hl⟩
