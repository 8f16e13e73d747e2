/-! contracts of the reference: find, findFields -/
theorem f1_some {S : SS} {col : Nat → Bool} {P P1 : PP} {o t : Nat} (hp : po P = true) (hc : col (hm S o) = true) (hn : pt P o = none) (h : tgF S P (knd S o) (wd S o) = (some t, P1)) : find1 S col P (some o) = plc P1 o t (wd S o) := by
  unfold find1
  simp only [hp, hc, hn, h, Option.isNone_none, Bool.and_self, if_true]
theorem f1_none {S : SS} {col : Nat → Bool} {P P1 : PP} {o : Nat} (hp : po P = true) (hc : col (hm S o) = true) (hn : pt P o = none) (h : tgF S P (knd S o) (wd S o) = (none, P1)) : find1 S col P (some o) = bad P := by
  unfold find1
  simp only [hp, hc, hn, h, Option.isNone_none, Bool.and_self, if_true]
theorem f1_no {S : SS} {col : Nat → Bool} {P : PP} {o : Nat} (h : (po P && col (hm S o) && (pt P o).isNone) = false) : find1 S col P (some o) = P := by
  unfold find1
  simp only [h, Bool.false_eq_true, if_false]
theorem RQ_bad {h : AH} {S : SS} {col : Nat → Bool} {P : PP} {sg : Nat → Nat} (q : RQ h S col P sg) : RQ (sI h 3 0 22 (nI 1)) S col (bad P) sg := by
  refine ⟨fun r hr => ⟨?_, ?_⟩, fun o' ho' => ?_, ⟨?_, fun j o' hj => ?_⟩, fun j o' t' hj ht' => ⟨?_, ?_⟩, fun k' hk' => ⟨?_, fun t' ht' => ?_⟩, ?_⟩
  · rw [wS (by decide)]; exact q.co hr
  · rw [wS (by decide)]; exact q.bc hr
  · rw [wS (by decide)]; exact q.kn ho'
  · rw [wA, if_neg (by decide)]; exact q.fo
  · rw [wS (by decide)]; exact q.qu hj
  · rw [wS (by decide)]; exact q.nr hj ht'
  · rw [wS (by decide)]; exact q.no hj ht'
  · rw [wS (by decide)]; exact q.ta hk'
  · rw [wS (by decide)]; exact q.fi hk' ht'
  · rw [wA, if_pos rfl]; rfl
theorem RQ_tg {h : AH} {S : SS} {col : Nat → Bool} {P : PP} {sg : Nat → Nat} (q : RQ h S col P sg) {k r : Nat} (hk : k = 2 ∨ k = 3) (hu : pu P r = 0) : RQ (sI (sI (sI h 6 12 r (nI k)) 6 16 k (nI r)) 6 17 k (nI 0)) S col (pf P, pt P, va_up (pk P) r k, pu P, va_up (pl P) k (some r), po P) sg := by
  refine ⟨fun r' hr' => ⟨?_, ?_⟩, fun o' ho' => ?_, ⟨?_, fun j o' hj => ?_⟩, fun j o' t' hj ht' => ⟨?_, ?_⟩, fun k' hk' => ⟨?_, fun t' ht' => ?_⟩, ?_⟩
  · rw [wS (by decide), wS (by decide), wS (by decide)]; exact q.co hr'
  · rw [w6n (by decide), w6n (by decide), wA]
    exact nI_up (q.bc hr')
  · rw [wS (by decide), wS (by decide), wS (by decide)]; exact q.kn ho'
  · rw [wS (by decide), wS (by decide), wS (by decide)]; exact q.fo
  · rw [w6n (by decide), w6n (by decide), w6n (by decide)]; exact q.qu hj
  · rw [w6n (by decide), w6n (by decide), w6n (by decide)]; exact q.nr hj ht'
  · rw [w6n (by decide), w6n (by decide), w6n (by decide)]; exact q.no hj ht'
  · rw [w6n (by decide), wA]
    show _ = ol (va_up (pl P) k (some r) k')
    by_cases e : k' = k
    · rw [if_pos e, e, va_up_self]; rfl
    · rw [if_neg e, va_up_ne _ _ e, w6n (by decide)]; exact q.ta hk'
  · have ht' : va_up (pl P) k (some r) k' = some t' := ht'
    show _ = nI (pu P t')
    rw [wA]
    by_cases e : k' = k
    · rw [e, va_up_self] at ht'
      cases ht'
      rw [if_pos e, hu]
    · rw [va_up_ne _ _ e] at ht'
      rw [if_neg e, w6n (by decide), w6n (by decide)]; exact q.fi hk' ht'
  · rw [wS (by decide), wS (by decide), wS (by decide)]; exact q.la
theorem m_find {h : AH} {S : SS} {col : Nat → Bool} {P : PP} {sg : Nat → Nat} (m : RM h S sg) (v : IV S) (sm : SMc S col) (q : RQ h S col P sg) (i : PI S col P) (x : Option Nat) (hx : ∀ o, x = some o → o ∈ all S) : TT 72 0 [rv 3 (some 0), iv (ol (x.map sg)), un, un, un] [] h 0 0 (fun r h' => r = none ∧ XF h h' ∧ RQ h' S col (find1 S col P x) sg) := by
  cases x with
  | none =>
    refine r_iload_n 1 d_72_0 rfl rfl ?_
    refine r_if_lt 34 4 d_72_1 (by decide) rfl (fun c_1 => ?_) (fun c_1 => absurd (show ol none < 0 by decide) c_1)
    refine r_return d_72_34 rfl ?_
    exact ⟨rfl, XF.rf h, q⟩
  | some o =>
    have ho := hx o rfl
    have hso := m.lt ho
    have hr12 := hm_lt v.cl ho
    have hk5 := v.bd.kd hr12
    have hhm := m.hm ho
    cases hp : po P with
    | false =>
      have hla : hI h 3 0 22 = bI true := q.la.trans (by rw [hp]; rfl)
      have e : find1 S col P (some o) = P := find1_bad hp _
      rw [e]
      refine r_iload_n 1 d_72_0 rfl rfl ?_
      refine r_if_lt 34 4 d_72_1 (by decide) rfl (fun c_1 => absurd c_1 (nI_pos (by omega))) (fun c_1 => ?_)
      refine r_aload_n 5 d_72_4 rfl rfl ?_
      refine r_getI 8 3 22 (bI true) d_72_5 rfl fk_3_96 rfl hla ?_
      refine r_if_ne 34 11 d_72_8 (by decide) rfl (fun c_8 => ?_) (fun c_8 => absurd c_8 bI_t0)
      refine r_return d_72_34 rfl ?_
      exact ⟨rfl, XF.rf h, q⟩
    | true =>
      have hla : hI h 3 0 22 = bI false := q.la.trans (by rw [hp]; rfl)
      cases hpt : pt P o with
      | some t =>
        have hkn : hI h 7 1 (sg o) = bI true := (q.kn ho).trans (by rw [hpt]; rfl)
        have e : find1 S col P (some o) = P := f1_no (by rw [hpt]; simp)
        rw [e]
        refine r_iload_n 1 d_72_0 rfl rfl ?_
        refine r_if_lt 34 4 d_72_1 (by decide) rfl (fun c_1 => absurd c_1 (nI_pos (by omega))) (fun c_1 => ?_)
        refine r_aload_n 5 d_72_4 rfl rfl ?_
        refine r_getI 8 3 22 (bI false) d_72_5 rfl fk_3_96 rfl hla ?_
        refine r_if_ne 34 11 d_72_8 (by decide) rfl (fun c_8 => absurd c_8 (fun z => z rfl)) (fun c_8 => ?_)
        refine r_aload_n 12 d_72_11 rfl rfl ?_
        refine r_getR 15 3 17 7 (some 1) d_72_12 rfl fk_3_60 rfl (by decide) (MT.f17 m.mt) ?_
        refine r_iload_n 16 d_72_15 rfl rfl ?_
        refine r_bald 17 (sg o) (bI true) d_72_16 rfl rfl (MT.l7_1 m.mt hso) hkn ?_
        refine r_if_ne 34 20 d_72_17 (by decide) rfl (fun c_17 => ?_) (fun c_17 => absurd c_17 bI_t0)
        refine r_return d_72_34 rfl ?_
        exact ⟨rfl, XF.rf h, q⟩
      | none =>
        have hkn : hI h 7 1 (sg o) = bI false := (q.kn ho).trans (by rw [hpt]; rfl)
        cases hc : col (hm S o) with
        | false =>
          have hco : hI h 7 0 (hm S o) = bI false := (q.co hr12).trans (by rw [hc])
          have e : find1 S col P (some o) = P := f1_no (by rw [hc]; simp)
          rw [e]
          refine r_iload_n 1 d_72_0 rfl rfl ?_
          refine r_if_lt 34 4 d_72_1 (by decide) rfl (fun c_1 => absurd c_1 (nI_pos (by omega))) (fun c_1 => ?_)
          refine r_aload_n 5 d_72_4 rfl rfl ?_
          refine r_getI 8 3 22 (bI false) d_72_5 rfl fk_3_96 rfl hla ?_
          refine r_if_ne 34 11 d_72_8 (by decide) rfl (fun c_8 => absurd c_8 (fun z => z rfl)) (fun c_8 => ?_)
          refine r_aload_n 12 d_72_11 rfl rfl ?_
          refine r_getR 15 3 17 7 (some 1) d_72_12 rfl fk_3_60 rfl (by decide) (MT.f17 m.mt) ?_
          refine r_iload_n 16 d_72_15 rfl rfl ?_
          refine r_bald 17 (sg o) (bI false) d_72_16 rfl rfl (MT.l7_1 m.mt hso) hkn ?_
          refine r_if_ne 34 20 d_72_17 (by decide) rfl (fun c_17 => absurd c_17 (fun z => z rfl)) (fun c_17 => ?_)
          refine r_aload_n 21 d_72_20 rfl rfl ?_
          refine r_getR 24 3 13 7 (some 0) d_72_21 rfl fk_3_50 rfl (by decide) (MT.f13 m.mt) ?_
          refine r_aload_n 25 d_72_24 rfl rfl ?_
          refine r_getR 28 3 4 6 (some 4) d_72_25 rfl fk_3_22 rfl (by decide) (MT.f4 m.mt) ?_
          refine r_iload_n 29 d_72_28 rfl rfl ?_
          refine r_iald 30 (sg o) (nI (hm S o)) d_72_29 rfl rfl (MT.l6_4 m.mt hso) hhm ?_
          refine r_bald 31 (hm S o) (bI false) d_72_30 rfl rfl (MT.l7_0 m.mt hr12) hco ?_
          refine r_if_ne 35 34 d_72_31 (by decide) rfl (fun c_31 => absurd c_31 (fun z => z rfl)) (fun c_31 => ?_)
          refine r_return d_72_34 rfl ?_
          exact ⟨rfl, XF.rf h, q⟩
        | true =>
          have hco : hI h 7 0 (hm S o) = bI true := (q.co hr12).trans (by rw [hc])
          have hw := sm o ho hc
          have main : ∀ k, k = knd S o → TT 72 56 [rv 3 (some 0), iv (nI (sg o)), iv (nI k), un, un] [] h 0 0 (fun r h' => r = none ∧ XF h h' ∧ RQ h' S col (find1 S col P (some o)) sg) := by
            intro k hk
            have hk23 : k = 2 ∨ k = 3 := by
              rw [hk]; unfold knd; split <;> omega
            have hk4 : k < 4 := by omega
            have look : (pl P k).filter (fun t => decide (pu P t + wd S o ≤ 16)) = none → TT 72 83 [rv 3 (some 0), iv (nI (sg o)), iv (nI k), un, un] [] h 0 0 (fun r h' => r = none ∧ XF h h' ∧ RQ h' S col (find1 S col P (some o)) sg) := by
              intro hno
              have loop : ∀ j n, j + n = 12 → TT 72 89 [rv 3 (some 0), iv (nI (sg o)), iv (nI k), iv (ol (fst (frP S P) n j)), iv (nI j - 1)] [] h 0 0 (fun r h' => r = none ∧ XF h h' ∧ RQ h' S col (find1 S col P (some o)) sg) := by
                intro j
                induction j with
                | zero =>
                  intro n hn
                  obtain rfl : n = 12 := by omega
                  cases hf : fst (frP S P) 12 0 with
                  | none =>
                    have e : tgF S P (knd S o) (wd S o) = (none, P) := by rw [← hk]; simp only [tgF, hno, hf]
                    rw [f1_none hp hc hpt e]
                    refine r_iload 91 d_72_89 rfl rfl ?_
                    refine r_if_lt 127 94 d_72_91 (by decide) rfl (fun c_91 => ?_) (fun c_91 => absurd (by decide) c_91)
                    refine r_iload_n 128 d_72_127 rfl rfl ?_
                    refine r_if_ge 137 131 d_72_128 (by decide) rfl (fun c_128 => absurd c_128 (by decide)) (fun c_128 => ?_)
                    refine r_aload_n 132 d_72_131 rfl rfl ?_
                    refine r_iconst 133 (nI 1) d_72_132 rfl (by decide) ?_
                    refine r_putI 136 3 22 d_72_133 rfl fk_3_96 (Or.inl rfl) rfl rfl rfl ?_
                    refine r_return d_72_136 rfl ?_
                    exact ⟨rfl, XF_sI (XF.rf h) rfl, RQ_bad q⟩
                  | some r =>
                    have hr : r < 12 := by have := fst_lt 12 0 r hf; omega
                    have hfr := fst_ok 12 0 r hf
                    have hpk : pk P r = 0 := by unfold frP at hfr; rw [Bool.and_eq_true] at hfr; exact of_decide_eq_true hfr.2
                    have hpu : pu P r = 0 := (i.2.2.2.2.1 r hr).2.2.1 hpk
                    have e : tgF S P (knd S o) (wd S o) = (some r, (pf P, pt P, va_up (pk P) r k, pu P, va_up (pl P) k (some r), po P)) := by rw [← hk]; simp only [tgF, hno, hf]
                    have pi := (tgF_PI i (by rw [← hk]; exact hk23) (by omega) (congrArg Prod.fst e)).1
                    rw [e] at pi
                    rw [f1_some hp hc hpt e]
                    have q2 := RQ_tg q hk23 hpu
                    have xf2 : XF h (sI (sI (sI h 6 12 r (nI k)) 6 16 k (nI r)) 6 17 k (nI 0)) := XF_sI (XF_sI (XF_sI (XF.rf h) rfl) rfl) rfl
                    have z := m_place (RX_XF m xf2) v q2 pi ho hpt hk23 (va_up_self _ _ _)
                    refine r_iload 91 d_72_89 rfl rfl ?_
                    refine r_if_lt 127 94 d_72_91 (by decide) rfl (fun c_91 => ?_) (fun c_91 => absurd (by decide) c_91)
                    refine r_iload_n 128 d_72_127 rfl rfl ?_
                    refine r_if_ge 137 131 d_72_128 (by decide) rfl (fun c_128 => ?_) (fun c_128 => absurd (nI_pos' (by omega)) c_128)
                    refine r_aload_n 138 d_72_137 rfl rfl ?_
                    refine r_getR 141 3 14 6 (some 12) d_72_138 rfl fk_3_54 rfl (by decide) (MT.f14 m.mt) ?_
                    refine r_iload_n 142 d_72_141 rfl rfl ?_
                    refine r_iload_n 143 d_72_142 rfl rfl ?_
                    refine r_iast 144 r d_72_143 rfl rfl (MT.l6_12 m.mt hr) ?_
                    refine r_aload_n 145 d_72_144 rfl rfl ?_
                    refine r_getR 148 3 20 6 (some 16) d_72_145 rfl fk_3_69 rfl (by decide) (MT.f20 (MT_sI m.mt rfl)) ?_
                    refine r_iload_n 149 d_72_148 rfl rfl ?_
                    refine r_iload_n 150 d_72_149 rfl rfl ?_
                    refine r_iast 151 k d_72_150 rfl rfl (MT.l6_16 (MT_sI m.mt rfl) hk4) ?_
                    refine r_aload_n 152 d_72_151 rfl rfl ?_
                    refine r_getR 155 3 21 6 (some 17) d_72_152 rfl fk_3_72 rfl (by decide) (MT.f21 (MT_sI (MT_sI m.mt rfl) rfl)) ?_
                    refine r_iload_n 156 d_72_155 rfl rfl ?_
                    refine r_iconst 157 (nI 0) d_72_156 rfl (by decide) ?_
                    refine r_iast 158 k d_72_157 rfl rfl (MT.l6_17 (MT_sI (MT_sI m.mt rfl) rfl) hk4) ?_
                    refine TT.forget 3 (ls' := [rv 3 (some 0), iv (nI (sg o)), iv (nI k), un, iv (nI 0 - 1)]) rfl ?_
                    refine TT.forget 4 (ls' := [rv 3 (some 0), iv (nI (sg o)), iv (nI k), un, un]) rfl ?_
                    exact TT.mono (fun r h' y => ⟨y.1, xf2.tr y.2.1, y.2.2⟩) z
                | succ j ih =>
                  intro n hn
                  have hj12 : j < 12 := by omega
                  have hkj := v.bd.kd hj12
                  have hpj := (i.2.2.2.2.1 j hj12).1
                  have z := ih (n + 1) (by omega)
                  rw [nI_pred]
                  refine r_iload 91 d_72_89 rfl rfl ?_
                  refine r_if_lt 127 94 d_72_91 (by decide) rfl (fun c_91 => absurd c_91 (nI_pos (by omega))) (fun c_91 => ?_)
                  refine r_aload_n 95 d_72_94 rfl rfl ?_
                  refine r_getR 98 3 8 6 (some 8) d_72_95 rfl fk_3_34 rfl (by decide) (MT.f8 m.mt) ?_
                  refine r_iload 100 d_72_98 rfl rfl ?_
                  refine r_iald 101 j (nI (kd S j)) d_72_100 rfl rfl (MT.l6_8 m.mt hj12) (m.kd hj12) ?_
                  refine r_if_ne 119 104 d_72_101 (by decide) rfl (fun c_101 => ?_) (fun c_101 => ?_)
                  · skip
                    refine r_iload_n 120 d_72_119 rfl rfl ?_
                    refine r_istore_n 121 [rv 3 (some 0), iv (nI (sg o)), iv (nI k), iv (ol (fst (frP S P) n (j + 1))), iv (nI j)] d_72_120 rfl rfl rfl ?_
                    refine r_iinc 124 (nI j - 1) [rv 3 (some 0), iv (nI (sg o)), iv (nI k), iv (ol (fst (frP S P) n (j + 1))), iv (nI j - 1)] d_72_121 rfl rfl (dec1 j) rfl rfl ?_
                    refine r_goto 89 d_72_124 (by decide) ?_
                    first
                    | (rw [fst, if_neg (by unfold frP; rw [isk_f c_101]; exact Bool.false_ne_true)] at z; exact z)
                    | (rw [fst, if_neg (by unfold frP; rw [decide_eq_false (fun y => c_111 (by rw [y]; rfl)), Bool.and_false]; exact Bool.false_ne_true)] at z; exact z)
                    | (rw [fst, if_pos (by unfold frP; rw [isk_t v.bd hj12 (by decide) c_101, decide_eq_true ((nI_eq (by omega) (by decide)).mp c_111)]; rfl)] at z; exact z)
                  · skip
                    refine r_aload_n 105 d_72_104 rfl rfl ?_
                    refine r_getR 108 3 14 6 (some 12) d_72_105 rfl fk_3_54 rfl (by decide) (MT.f14 m.mt) ?_
                    refine r_iload 110 d_72_108 rfl rfl ?_
                    refine r_iald 111 j (nI (pk P j)) d_72_110 rfl rfl (MT.l6_12 m.mt hj12) (q.bc hj12) ?_
                    refine r_if_ne 119 114 d_72_111 (by decide) rfl (fun c_111 => ?_) (fun c_111 => ?_)
                    · skip
                      refine r_iload_n 120 d_72_119 rfl rfl ?_
                      refine r_istore_n 121 [rv 3 (some 0), iv (nI (sg o)), iv (nI k), iv (ol (fst (frP S P) n (j + 1))), iv (nI j)] d_72_120 rfl rfl rfl ?_
                      refine r_iinc 124 (nI j - 1) [rv 3 (some 0), iv (nI (sg o)), iv (nI k), iv (ol (fst (frP S P) n (j + 1))), iv (nI j - 1)] d_72_121 rfl rfl (dec1 j) rfl rfl ?_
                      refine r_goto 89 d_72_124 (by decide) ?_
                      first
                      | (rw [fst, if_neg (by unfold frP; rw [isk_f c_101]; exact Bool.false_ne_true)] at z; exact z)
                      | (rw [fst, if_neg (by unfold frP; rw [decide_eq_false (fun y => c_111 (by rw [y]; rfl)), Bool.and_false]; exact Bool.false_ne_true)] at z; exact z)
                      | (rw [fst, if_pos (by unfold frP; rw [isk_t v.bd hj12 (by decide) c_101, decide_eq_true ((nI_eq (by omega) (by decide)).mp c_111)]; rfl)] at z; exact z)
                    · skip
                      refine r_iload 116 d_72_114 rfl rfl ?_
                      refine r_goto 120 d_72_116 (by decide) ?_
                      refine r_istore_n 121 [rv 3 (some 0), iv (nI (sg o)), iv (nI k), iv (nI j), iv (nI j)] d_72_120 rfl rfl rfl ?_
                      refine r_iinc 124 (nI j - 1) [rv 3 (some 0), iv (nI (sg o)), iv (nI k), iv (nI j), iv (nI j - 1)] d_72_121 rfl rfl (dec1 j) rfl rfl ?_
                      refine r_goto 89 d_72_124 (by decide) ?_
                      first
                      | (rw [fst, if_neg (by unfold frP; rw [isk_f c_101]; exact Bool.false_ne_true)] at z; exact z)
                      | (rw [fst, if_neg (by unfold frP; rw [decide_eq_false (fun y => c_111 (by rw [y]; rfl)), Bool.and_false]; exact Bool.false_ne_true)] at z; exact z)
                      | (rw [fst, if_pos (by unfold frP; rw [isk_t v.bd hj12 (by decide) c_101, decide_eq_true ((nI_eq (by omega) (by decide)).mp c_111)]; rfl)] at z; exact z)
              have z0 := loop 12 0 rfl
              refine r_iconst 84 (-1) d_72_83 rfl (by decide) ?_
              refine r_istore_n 85 [rv 3 (some 0), iv (nI (sg o)), iv (nI k), iv (-1), un] d_72_84 rfl rfl rfl ?_
              refine r_bipush 87 (nI 11) d_72_85 rfl (by decide) ?_
              refine r_istore 89 [rv 3 (some 0), iv (nI (sg o)), iv (nI k), iv (-1), iv (nI 11)] d_72_87 rfl rfl rfl ?_
              exact z0
            cases hpl : pl P k with
            | none =>
              have hta : hI h 6 16 k = -1 := (q.ta hk23).trans (by rw [hpl]; rfl)
              refine r_aload_n 57 d_72_56 rfl rfl ?_
              refine r_getR 60 3 20 6 (some 16) d_72_57 rfl fk_3_69 rfl (by decide) (MT.f20 m.mt) ?_
              refine r_iload_n 61 d_72_60 rfl rfl ?_
              refine r_iald 62 k (-1) d_72_61 rfl rfl (MT.l6_16 m.mt hk4) hta ?_
              refine r_if_lt 83 65 d_72_62 (by decide) rfl (fun c_62 => ?_) (fun c_62 => absurd (by decide) c_62)
              exact look (by rw [hpl]; rfl)
            | some t =>
              have ht := i.2.2.2.2.2 k hk23 t hpl
              have hta : hI h 6 16 k = nI t := (q.ta hk23).trans (by rw [hpl]; rfl)
              have hpu := (i.2.2.2.2.1 t ht.1).2.2.2.2
              refine r_aload_n 57 d_72_56 rfl rfl ?_
              refine r_getR 60 3 20 6 (some 16) d_72_57 rfl fk_3_69 rfl (by decide) (MT.f20 m.mt) ?_
              refine r_iload_n 61 d_72_60 rfl rfl ?_
              refine r_iald 62 k (nI t) d_72_61 rfl rfl (MT.l6_16 m.mt hk4) hta ?_
              refine r_if_lt 83 65 d_72_62 (by decide) rfl (fun c_62 => absurd c_62 (nI_pos (by omega))) (fun c_62 => ?_)
              refine r_aload_n 66 d_72_65 rfl rfl ?_
              refine r_getR 69 3 21 6 (some 17) d_72_66 rfl fk_3_72 rfl (by decide) (MT.f21 m.mt) ?_
              refine r_iload_n 70 d_72_69 rfl rfl ?_
              refine r_iald 71 k (nI (pu P t)) d_72_70 rfl rfl (MT.l6_17 m.mt hk4) (q.fi hk23 hpl) ?_
              refine r_aload_n 72 d_72_71 rfl rfl ?_
              refine r_getR 75 3 1 6 (some 1) d_72_72 rfl fk_3_13 rfl (by decide) (MT.f1 m.mt) ?_
              refine r_iload_n 76 d_72_75 rfl rfl ?_
              refine r_iald 77 (sg o) (nI (wd S o)) d_72_76 rfl rfl (MT.l6_1 m.mt hso) (m.wd ho) ?_
              refine r_iadd 78 (nI ((pu P t) + (wd S o))) d_72_77 rfl (nI_add (pu P t) (wd S o)) ?_
              refine r_bipush 80 (nI 16) d_72_78 rfl (by decide) ?_
              refine r_icmp_le 158 83 d_72_80 (by decide) rfl (fun c_80 => ?_) (fun c_80 => ?_)
              · skip
                have hle : pu P t + wd S o ≤ 16 := (nI_leI (by omega) (by decide)).mp c_80
                have e : tgF S P (knd S o) (wd S o) = (some t, P) := by rw [← hk]; simp only [tgF, hpl, Option.filter, decide_eq_true hle, if_true]
                rw [f1_some hp hc hpt e]
                exact m_place m v q i ho hpt hk23 hpl
              · skip
                have hle : ¬ pu P t + wd S o ≤ 16 := fun y => c_80 ((nI_leI (by omega) (by decide)).mpr y)
                exact look (by simp only [hpl, Option.filter, decide_eq_false hle, if_false, Bool.false_eq_true])
          refine r_iload_n 1 d_72_0 rfl rfl ?_
          refine r_if_lt 34 4 d_72_1 (by decide) rfl (fun c_1 => absurd c_1 (nI_pos (by omega))) (fun c_1 => ?_)
          refine r_aload_n 5 d_72_4 rfl rfl ?_
          refine r_getI 8 3 22 (bI false) d_72_5 rfl fk_3_96 rfl hla ?_
          refine r_if_ne 34 11 d_72_8 (by decide) rfl (fun c_8 => absurd c_8 (fun z => z rfl)) (fun c_8 => ?_)
          refine r_aload_n 12 d_72_11 rfl rfl ?_
          refine r_getR 15 3 17 7 (some 1) d_72_12 rfl fk_3_60 rfl (by decide) (MT.f17 m.mt) ?_
          refine r_iload_n 16 d_72_15 rfl rfl ?_
          refine r_bald 17 (sg o) (bI false) d_72_16 rfl rfl (MT.l7_1 m.mt hso) hkn ?_
          refine r_if_ne 34 20 d_72_17 (by decide) rfl (fun c_17 => absurd c_17 (fun z => z rfl)) (fun c_17 => ?_)
          refine r_aload_n 21 d_72_20 rfl rfl ?_
          refine r_getR 24 3 13 7 (some 0) d_72_21 rfl fk_3_50 rfl (by decide) (MT.f13 m.mt) ?_
          refine r_aload_n 25 d_72_24 rfl rfl ?_
          refine r_getR 28 3 4 6 (some 4) d_72_25 rfl fk_3_22 rfl (by decide) (MT.f4 m.mt) ?_
          refine r_iload_n 29 d_72_28 rfl rfl ?_
          refine r_iald 30 (sg o) (nI (hm S o)) d_72_29 rfl rfl (MT.l6_4 m.mt hso) hhm ?_
          refine r_bald 31 (hm S o) (bI true) d_72_30 rfl rfl (MT.l7_0 m.mt hr12) hco ?_
          refine r_if_ne 35 34 d_72_31 (by decide) rfl (fun c_31 => ?_) (fun c_31 => absurd c_31 bI_t0)
          refine r_aload_n 36 d_72_35 rfl rfl ?_
          refine r_getR 39 3 8 6 (some 8) d_72_36 rfl fk_3_34 rfl (by decide) (MT.f8 m.mt) ?_
          refine r_aload_n 40 d_72_39 rfl rfl ?_
          refine r_getR 43 3 4 6 (some 4) d_72_40 rfl fk_3_22 rfl (by decide) (MT.f4 m.mt) ?_
          refine r_iload_n 44 d_72_43 rfl rfl ?_
          refine r_iald 45 (sg o) (nI (hm S o)) d_72_44 rfl rfl (MT.l6_4 m.mt hso) hhm ?_
          refine r_iald 46 (hm S o) (nI (kd S (hm S o))) d_72_45 rfl rfl (MT.l6_8 m.mt hr12) (m.kd hr12) ?_
          refine r_iconst 47 (nI 1) d_72_46 rfl (by decide) ?_
          refine r_icmp_ne 54 50 d_72_47 (by decide) rfl (fun c_47 => ?_) (fun c_47 => ?_)
          · skip
            refine r_iconst 55 (nI 3) d_72_54 rfl (by decide) ?_
            refine r_istore_n 56 [rv 3 (some 0), iv (nI (sg o)), iv (nI 3), un, un] d_72_55 rfl rfl rfl ?_
            first
            | exact main 3 (by unfold knd; rw [if_neg (fun y => c_47 (by rw [y]))])
            | exact main 2 (by unfold knd; rw [if_pos ((nI_eq (by omega) (by decide)).mp c_47)])
          · skip
            refine r_iconst 51 (nI 2) d_72_50 rfl (by decide) ?_
            refine r_goto 55 d_72_51 (by decide) ?_
            refine r_istore_n 56 [rv 3 (some 0), iv (nI (sg o)), iv (nI 2), un, un] d_72_55 rfl rfl rfl ?_
            first
            | exact main 3 (by unfold knd; rw [if_neg (fun y => c_47 (by rw [y]))])
            | exact main 2 (by unfold knd; rw [if_pos ((nI_eq (by omega) (by decide)).mp c_47)])
theorem m_findFields {h : AH} {S : SS} {col : Nat → Bool} {P : PP} {sg : Nat → Nat} (m : RM h S sg) (v : IV S) (sm : SMc S col) (q : RQ h S col P sg) (i : PI S col P) {o : Nat} (ho : o ∈ all S) : TT 73 0 [rv 3 (some 0), iv (nI (sg o)), un] [] h 0 0 (fun r h' => r = none ∧ XF h h' ∧ RQ h' S col (finds S col P (fd S o)) sg) := by
  have hso := m.lt ho
  have hf3 := v.bd.fd (v.2.2.2.2.2.1 o ho)
  have loop : ∀ n f h1 P1, f + n = (fd S o).length → XF h h1 → RQ h1 S col P1 sg → PI S col P1 → finds S col P (fd S o) = finds S col P1 ((fd S o).drop f) → TT 73 4 [rv 3 (some 0), iv (nI (sg o)), iv (nI (3 * sg o + f))] [] h1 0 0 (fun r h' => r = none ∧ XF h h' ∧ RQ h' S col (finds S col P (fd S o)) sg) := by
    intro n
    induction n with
    | zero =>
      intro f h1 P1 hf xf q1 i1 he
      obtain rfl : f = (fd S o).length := by omega
      have m1 := RX_XF m xf
      have e : finds S col P (fd S o) = P1 := he.trans (by rw [List.drop_length]; rfl)
      rw [e]
      refine r_iload_n 5 d_73_4 rfl rfl ?_
      refine r_iconst 6 (nI 3) d_73_5 rfl (by decide) ?_
      refine r_iload_n 7 d_73_6 rfl rfl ?_
      refine r_imul 8 (nI (3 * sg o)) d_73_7 rfl (pk_mul _ _) ?_
      refine r_aload_n 9 d_73_8 rfl rfl ?_
      refine r_getR 12 3 2 6 (some 2) d_73_9 rfl fk_3_16 rfl (by decide) (MT.f2 m1.mt) ?_
      refine r_iload_n 13 d_73_12 rfl rfl ?_
      refine r_iald 14 (sg o) (nI (fd S o).length) d_73_13 rfl rfl (MT.l6_2 m1.mt hso) (m1.fl ho) ?_
      refine r_iadd 15 (nI (3 * sg o + (fd S o).length)) d_73_14 rfl (nI_add _ _) ?_
      refine r_icmp_ge 34 18 d_73_15 (by decide) rfl (fun c_15 => ?_) (fun c_15 => absurd (nI_le (Nat.le_refl _) (by omega)) c_15)
      refine r_return d_73_34 rfl ?_
      exact ⟨rfl, xf, q1⟩
    | succ n ih =>
      intro f h1 P1 hf xf q1 i1 he
      have m1 := RX_XF m xf
      obtain ⟨w, hw⟩ : ∃ w, (fd S o)[f]? = some w := ⟨_, List.getElem?_eq_getElem (by omega)⟩
      have hwm : ∀ x, w = some x → x ∈ all S := fun x hx => v.2.2.2.1 o x ho (hx ▸ List.mem_of_getElem? hw)
      have hb : 3 * sg o + f < 291 := by omega
      rw [finds_drop hw] at he
      refine r_iload_n 5 d_73_4 rfl rfl ?_
      refine r_iconst 6 (nI 3) d_73_5 rfl (by decide) ?_
      refine r_iload_n 7 d_73_6 rfl rfl ?_
      refine r_imul 8 (nI (3 * sg o)) d_73_7 rfl (pk_mul _ _) ?_
      refine r_aload_n 9 d_73_8 rfl rfl ?_
      refine r_getR 12 3 2 6 (some 2) d_73_9 rfl fk_3_16 rfl (by decide) (MT.f2 m1.mt) ?_
      refine r_iload_n 13 d_73_12 rfl rfl ?_
      refine r_iald 14 (sg o) (nI (fd S o).length) d_73_13 rfl rfl (MT.l6_2 m1.mt hso) (m1.fl ho) ?_
      refine r_iadd 15 (nI (3 * sg o + (fd S o).length)) d_73_14 rfl (nI_add _ _) ?_
      refine r_icmp_ge 34 18 d_73_15 (by decide) rfl (fun c_15 => absurd c_15 (nI_ge (by omega) (by omega))) (fun c_15 => ?_)
      refine r_aload_n 19 d_73_18 rfl rfl ?_
      refine r_aload_n 20 d_73_19 rfl rfl ?_
      refine r_getR 23 3 3 6 (some 3) d_73_20 rfl fk_3_19 rfl (by decide) (MT.f3 m1.mt) ?_
      refine r_iload_n 24 d_73_23 rfl rfl ?_
      refine r_iald 25 (3 * sg o + f) (ol (w.map sg)) d_73_24 rfl rfl (MT.l6_3 m1.mt hb) (m1.fd ho hw) ?_
      refine r_callV (k1 := 0) (n1 := 0) (k := 0) (n := 0) 28 72 3 [iv (ol (w.map sg))] d_73_25 rfl mk_72 lk_3_103 mv_72 rfl rfl rfl rfl rfl _ (m_find m1 v sm q1 i1 w hwm) ?_
      intro r_25 h_25 q_25
      obtain ⟨q1x, q2x, q3x⟩ := q_25
      subst q1x
      show TT 73 28 [rv 3 (some 0), iv (nI (sg o)), iv (nI (3 * sg o + f))] [] h_25 _ _ _
      refine r_iinc 31 (nI (3 * sg o + (f + 1))) [rv 3 (some 0), iv (nI (sg o)), iv (nI (3 * sg o + (f + 1)))] d_73_28 rfl rfl (nI_1 _) rfl rfl ?_
      refine r_goto 4 d_73_31 (by decide) ?_
      exact ih (f + 1) h_25 _ (by omega) (xf.tr q2x) q3x (find1_PI i1 sm w hwm) he
  refine r_iconst 1 (nI 3) d_73_0 rfl (by decide) ?_
  refine r_iload_n 2 d_73_1 rfl rfl ?_
  refine r_imul 3 (nI (3 * sg o)) d_73_2 rfl (pk_mul _ _) ?_
  refine r_istore_n 4 [rv 3 (some 0), iv (nI (sg o)), iv (nI (3 * sg o))] d_73_3 rfl rfl rfl ?_
  exact loop (fd S o).length 0 h P (by omega) (XF.rf h) q i rfl
